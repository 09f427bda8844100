theorem dX11_open_14 : decode cX11_open 14 = .ok (.iload_n 2, 1) := by decide +kernel
theorem dX11_open_15 : decode cX11_open 15 = .ok (.invokevirtual 132, 3) := by decide +kernel
theorem dX11_open_18 : decode cX11_open 18 = .ok (.ifCond .eq 12, 3) := by decide +kernel
theorem dX11_open_21 : decode cX11_open 21 = .ok (.iload_n 3, 1) := by decide +kernel
theorem dX11_open_22 : decode cX11_open 22 = .ok (.ifCond .lt 8, 3) := by decide +kernel
theorem dX11_open_25 : decode cX11_open 25 = .ok (.iload_n 3, 1) := by decide +kernel
theorem dX11_open_26 : decode cX11_open 26 = .ok (.iconst 4, 1) := by decide +kernel
theorem dX11_open_27 : decode cX11_open 27 = .ok (.if_icmp .le 6, 3) := by decide +kernel
theorem dX11_open_30 : decode cX11_open 30 = .ok (.ldc 215, 2) := by decide +kernel
theorem dX11_open_32 : decode cX11_open 32 = .ok (.ireturn, 1) := by decide +kernel
theorem dX11_open_33 : decode cX11_open 33 = .ok (.aload_n 0, 1) := by decide +kernel
theorem dX11_open_34 : decode cX11_open 34 = .ok (.getfield 62, 3) := by decide +kernel
theorem dX11_open_37 : decode cX11_open 37 = .ok (.iload_n 1, 1) := by decide +kernel
theorem dX11_open_38 : decode cX11_open 38 = .ok (.iload_n 2, 1) := by decide +kernel
theorem dX11_open_39 : decode cX11_open 39 = .ok (.iload_n 3, 1) := by decide +kernel
theorem dX11_open_40 : decode cX11_open 40 = .ok (.iconst 2, 1) := by decide +kernel
theorem dX11_open_41 : decode cX11_open 41 = .ok (.if_icmp .eq 8, 3) := by decide +kernel
theorem dX11_open_44 : decode cX11_open 44 = .ok (.iload_n 3, 1) := by decide +kernel
theorem dX11_open_45 : decode cX11_open 45 = .ok (.iconst 3, 1) := by decide +kernel
theorem dX11_open_46 : decode cX11_open 46 = .ok (.if_icmp .ne 7, 3) := by decide +kernel
theorem dX11_open_49 : decode cX11_open 49 = .ok (.iconst 1, 1) := by decide +kernel
theorem dX11_open_50 : decode cX11_open 50 = .ok (.goto 4, 3) := by decide +kernel
theorem dX11_open_53 : decode cX11_open 53 = .ok (.iconst 0, 1) := by decide +kernel
theorem dX11_open_54 : decode cX11_open 54 = .ok (.invokevirtual 216, 3) := by decide +kernel
theorem dX11_open_57 : decode cX11_open 57 = .ok (.iload_n 3, 1) := by decide +kernel
theorem dX11_open_58 : decode cX11_open 58 = .ok (.iconst 1, 1) := by decide +kernel
theorem dX11_open_59 : decode cX11_open 59 = .ok (.if_icmp .eq 8, 3) := by decide +kernel
theorem dX11_open_62 : decode cX11_open 62 = .ok (.iload_n 3, 1) := by decide +kernel
theorem dX11_open_63 : decode cX11_open 63 = .ok (.iconst 3, 1) := by decide +kernel
theorem dX11_open_64 : decode cX11_open 64 = .ok (.if_icmp .ne 11, 3) := by decide +kernel
theorem dX11_open_67 : decode cX11_open 67 = .ok (.aload_n 0, 1) := by decide +kernel
theorem dX11_open_68 : decode cX11_open 68 = .ok (.getfield 62, 3) := by decide +kernel
theorem dX11_open_71 : decode cX11_open 71 = .ok (.getfield 220, 3) := by decide +kernel
theorem dX11_open_74 : decode cX11_open 74 = .ok (.ireturn, 1) := by decide +kernel
theorem dX11_open_75 : decode cX11_open 75 = .ok (.aload_n 0, 1) := by decide +kernel
theorem dX11_open_76 : decode cX11_open 76 = .ok (.getfield 62, 3) := by decide +kernel
theorem dX11_open_79 : decode cX11_open 79 = .ok (.getfield 223, 3) := by decide +kernel
theorem dX11_open_82 : decode cX11_open 82 = .ok (.istore 4, 2) := by decide +kernel
theorem dX11_open_84 : decode cX11_open 84 = .ok (.iload_n 3, 1) := by decide +kernel
theorem dX11_open_85 : decode cX11_open 85 = .ok (.iconst 4, 1) := by decide +kernel
theorem dX11_open_86 : decode cX11_open 86 = .ok (.if_icmp .ne 25, 3) := by decide +kernel
theorem dX11_open_89 : decode cX11_open 89 = .ok (.aload_n 0, 1) := by decide +kernel
theorem dX11_open_90 : decode cX11_open 90 = .ok (.getfield 62, 3) := by decide +kernel
theorem dX11_open_93 : decode cX11_open 93 = .ok (.iload_n 1, 1) := by decide +kernel
theorem dX11_open_94 : decode cX11_open 94 = .ok (.iload_n 2, 1) := by decide +kernel
theorem dX11_open_95 : decode cX11_open 95 = .ok (.iconst 1, 1) := by decide +kernel
theorem dX11_open_96 : decode cX11_open 96 = .ok (.invokevirtual 216, 3) := by decide +kernel
theorem dX11_open_99 : decode cX11_open 99 = .ok (.iload 4, 2) := by decide +kernel
theorem dX11_open_101 : decode cX11_open 101 = .ok (.aload_n 0, 1) := by decide +kernel
theorem dX11_open_102 : decode cX11_open 102 = .ok (.getfield 62, 3) := by decide +kernel
theorem dX11_open_105 : decode cX11_open 105 = .ok (.getfield 223, 3) := by decide +kernel
theorem dX11_open_108 : decode cX11_open 108 = .ok (.isub, 1) := by decide +kernel
theorem dX11_open_109 : decode cX11_open 109 = .ok (.istore 4, 2) := by decide +kernel
theorem dX11_open_111 : decode cX11_open 111 = .ok (.iload 4, 2) := by decide +kernel
theorem dX11_open_113 : decode cX11_open 113 = .ok (.ireturn, 1) := by decide +kernel
theorem dX11_order_0 : decode cX11_order 0 = .ok (.iload_n 1, 1) := by decide +kernel
theorem dX11_order_1 : decode cX11_order 1 = .ok (.iconst (-1), 1) := by decide +kernel
theorem dX11_order_2 : decode cX11_order 2 = .ok (.if_icmp .ne 13, 3) := by decide +kernel
theorem dX11_order_5 : decode cX11_order 5 = .ok (.aload_n 0, 1) := by decide +kernel
theorem dX11_order_6 : decode cX11_order 6 = .ok (.getfield 31, 3) := by decide +kernel
theorem dX11_order_9 : decode cX11_order 9 = .ok (.iconst 0, 1) := by decide +kernel
theorem dX11_order_10 : decode cX11_order 10 = .ok (.putfield 202, 3) := by decide +kernel
theorem dX11_order_13 : decode cX11_order 13 = .ok (.iconst 0, 1) := by decide +kernel
theorem dX11_order_14 : decode cX11_order 14 = .ok (.ireturn, 1) := by decide +kernel
theorem dX11_order_15 : decode cX11_order 15 = .ok (.aload_n 0, 1) := by decide +kernel
theorem dX11_order_16 : decode cX11_order 16 = .ok (.getfield 31, 3) := by decide +kernel
theorem dX11_order_19 : decode cX11_order 19 = .ok (.iload_n 1, 1) := by decide +kernel
theorem dX11_order_20 : decode cX11_order 20 = .ok (.invokevirtual 151, 3) := by decide +kernel
theorem dX11_order_23 : decode cX11_order 23 = .ok (.ifCond .ne 9, 3) := by decide +kernel
theorem dX11_order_26 : decode cX11_order 26 = .ok (.aload_n 0, 1) := by decide +kernel
theorem dX11_order_27 : decode cX11_order 27 = .ok (.iconst 0, 1) := by decide +kernel
theorem dX11_order_28 : decode cX11_order 28 = .ok (.invokevirtual 158, 3) := by decide +kernel
theorem dX11_order_31 : decode cX11_order 31 = .ok (.ireturn, 1) := by decide +kernel
theorem dX11_order_32 : decode cX11_order 32 = .ok (.aload_n 0, 1) := by decide +kernel
theorem dX11_order_33 : decode cX11_order 33 = .ok (.getfield 31, 3) := by decide +kernel
theorem dX11_order_36 : decode cX11_order 36 = .ok (.getfield 202, 3) := by decide +kernel
theorem dX11_order_39 : decode cX11_order 39 = .ok (.bipush 8, 2) := by decide +kernel
theorem dX11_order_41 : decode cX11_order 41 = .ok (.if_icmp .lt 9, 3) := by decide +kernel
theorem dX11_order_44 : decode cX11_order 44 = .ok (.aload_n 0, 1) := by decide +kernel
theorem dX11_order_45 : decode cX11_order 45 = .ok (.iconst 1, 1) := by decide +kernel
theorem dX11_order_46 : decode cX11_order 46 = .ok (.invokevirtual 158, 3) := by decide +kernel
theorem dX11_order_49 : decode cX11_order 49 = .ok (.ireturn, 1) := by decide +kernel
theorem dX11_order_50 : decode cX11_order 50 = .ok (.aload_n 0, 1) := by decide +kernel
theorem dX11_order_51 : decode cX11_order 51 = .ok (.getfield 31, 3) := by decide +kernel
theorem dX11_order_54 : decode cX11_order 54 = .ok (.getfield 205, 3) := by decide +kernel
theorem dX11_order_57 : decode cX11_order 57 = .ok (.aload_n 0, 1) := by decide +kernel
theorem dX11_order_58 : decode cX11_order 58 = .ok (.getfield 31, 3) := by decide +kernel
theorem dX11_order_61 : decode cX11_order 61 = .ok (.getfield 202, 3) := by decide +kernel
theorem dX11_order_64 : decode cX11_order 64 = .ok (.iload_n 1, 1) := by decide +kernel
theorem dX11_order_65 : decode cX11_order 65 = .ok (.iastore, 1) := by decide +kernel
theorem dX11_order_66 : decode cX11_order 66 = .ok (.aload_n 0, 1) := by decide +kernel
theorem dX11_order_67 : decode cX11_order 67 = .ok (.getfield 31, 3) := by decide +kernel
theorem dX11_order_70 : decode cX11_order 70 = .ok (.dup, 1) := by decide +kernel
theorem dX11_order_71 : decode cX11_order 71 = .ok (.getfield 202, 3) := by decide +kernel
theorem dX11_order_74 : decode cX11_order 74 = .ok (.iconst 1, 1) := by decide +kernel
theorem dX11_order_75 : decode cX11_order 75 = .ok (.iadd, 1) := by decide +kernel
theorem dX11_order_76 : decode cX11_order 76 = .ok (.putfield 202, 3) := by decide +kernel
theorem dX11_order_79 : decode cX11_order 79 = .ok (.aload_n 0, 1) := by decide +kernel
theorem dX11_order_80 : decode cX11_order 80 = .ok (.getfield 31, 3) := by decide +kernel
theorem dX11_order_83 : decode cX11_order 83 = .ok (.getfield 202, 3) := by decide +kernel
theorem dX11_order_86 : decode cX11_order 86 = .ok (.ireturn, 1) := by decide +kernel
theorem dX11_ordered_0 : decode cX11_ordered 0 = .ok (.aload_n 0, 1) := by decide +kernel
theorem dX11_ordered_1 : decode cX11_ordered 1 = .ok (.getfield 31, 3) := by decide +kernel
theorem dX11_ordered_4 : decode cX11_ordered 4 = .ok (.iload_n 1, 1) := by decide +kernel
theorem dX11_ordered_5 : decode cX11_ordered 5 = .ok (.invokevirtual 208, 3) := by decide +kernel
theorem dX11_ordered_8 : decode cX11_ordered 8 = .ok (.ifCond .eq 15, 3) := by decide +kernel
theorem dX11_ordered_11 : decode cX11_ordered 11 = .ok (.aload_n 0, 1) := by decide +kernel
theorem dX11_ordered_12 : decode cX11_ordered 12 = .ok (.getfield 31, 3) := by decide +kernel
theorem dX11_ordered_15 : decode cX11_ordered 15 = .ok (.getfield 205, 3) := by decide +kernel
theorem dX11_ordered_18 : decode cX11_ordered 18 = .ok (.iload_n 1, 1) := by decide +kernel
theorem dX11_ordered_19 : decode cX11_ordered 19 = .ok (.iaload, 1) := by decide +kernel
theorem dX11_ordered_20 : decode cX11_ordered 20 = .ok (.goto 4, 3) := by decide +kernel
theorem dX11_ordered_23 : decode cX11_ordered 23 = .ok (.iconst (-1), 1) := by decide +kernel
theorem dX11_ordered_24 : decode cX11_ordered 24 = .ok (.ireturn, 1) := by decide +kernel
theorem dX11_plan_0 : decode cX11_plan 0 = .ok (.aload_n 0, 1) := by decide +kernel
theorem dX11_plan_1 : decode cX11_plan 1 = .ok (.iload_n 1, 1) := by decide +kernel
theorem dX11_plan_2 : decode cX11_plan 2 = .ok (.invokevirtual 226, 3) := by decide +kernel
theorem dX11_plan_5 : decode cX11_plan 5 = .ok (.ifCond .eq 29, 3) := by decide +kernel
theorem dX11_plan_8 : decode cX11_plan 8 = .ok (.aload_n 0, 1) := by decide +kernel
theorem dX11_plan_9 : decode cX11_plan 9 = .ok (.getfield 31, 3) := by decide +kernel
theorem dX11_plan_12 : decode cX11_plan 12 = .ok (.iload_n 2, 1) := by decide +kernel
theorem dX11_plan_13 : decode cX11_plan 13 = .ok (.invokevirtual 208, 3) := by decide +kernel
theorem dX11_plan_16 : decode cX11_plan 16 = .ok (.ifCond .eq 18, 3) := by decide +kernel
theorem dX11_plan_19 : decode cX11_plan 19 = .ok (.aload_n 0, 1) := by decide +kernel
theorem dX11_plan_20 : decode cX11_plan 20 = .ok (.getfield 31, 3) := by decide +kernel
theorem dX11_plan_23 : decode cX11_plan 23 = .ok (.iload_n 3, 1) := by decide +kernel
theorem dX11_plan_24 : decode cX11_plan 24 = .ok (.invokevirtual 132, 3) := by decide +kernel
theorem dX11_plan_27 : decode cX11_plan 27 = .ok (.ifCond .eq 7, 3) := by decide +kernel
theorem dX11_plan_30 : decode cX11_plan 30 = .ok (.iconst 1, 1) := by decide +kernel
theorem dX11_plan_31 : decode cX11_plan 31 = .ok (.goto 4, 3) := by decide +kernel
theorem dX11_plan_34 : decode cX11_plan 34 = .ok (.iconst 0, 1) := by decide +kernel
theorem dX11_plan_35 : decode cX11_plan 35 = .ok (.istore 4, 2) := by decide +kernel
theorem dX11_plan_37 : decode cX11_plan 37 = .ok (.iload 4, 2) := by decide +kernel
theorem dX11_plan_39 : decode cX11_plan 39 = .ok (.ifCond .eq 11, 3) := by decide +kernel
theorem dX11_plan_42 : decode cX11_plan 42 = .ok (.iload_n 1, 1) := by decide +kernel
theorem dX11_plan_43 : decode cX11_plan 43 = .ok (.iload_n 3, 1) := by decide +kernel
theorem dX11_plan_44 : decode cX11_plan 44 = .ok (.ishr, 1) := by decide +kernel
theorem dX11_plan_45 : decode cX11_plan 45 = .ok (.iconst 1, 1) := by decide +kernel
theorem dX11_plan_46 : decode cX11_plan 46 = .ok (.iand, 1) := by decide +kernel
theorem dX11_plan_47 : decode cX11_plan 47 = .ok (.ifCond .ne 5, 3) := by decide +kernel
theorem dX11_plan_50 : decode cX11_plan 50 = .ok (.iconst (-1), 1) := by decide +kernel
theorem dX11_plan_51 : decode cX11_plan 51 = .ok (.ireturn, 1) := by decide +kernel
theorem dX11_plan_52 : decode cX11_plan 52 = .ok (.aload_n 0, 1) := by decide +kernel
theorem dX11_plan_53 : decode cX11_plan 53 = .ok (.getfield 69, 3) := by decide +kernel
theorem dX11_plan_56 : decode cX11_plan 56 = .ok (.iload_n 1, 1) := by decide +kernel
theorem dX11_plan_57 : decode cX11_plan 57 = .ok (.invokevirtual 229, 3) := by decide +kernel
theorem dX11_plan_60 : decode cX11_plan 60 = .ok (.ifCond .eq 15, 3) := by decide +kernel
theorem dX11_plan_63 : decode cX11_plan 63 = .ok (.aload_n 0, 1) := by decide +kernel
theorem dX11_plan_64 : decode cX11_plan 64 = .ok (.getfield 69, 3) := by decide +kernel
theorem dX11_plan_67 : decode cX11_plan 67 = .ok (.iload_n 2, 1) := by decide +kernel
theorem dX11_plan_68 : decode cX11_plan 68 = .ok (.iload_n 3, 1) := by decide +kernel
theorem dX11_plan_69 : decode cX11_plan 69 = .ok (.invokevirtual 235, 3) := by decide +kernel
theorem dX11_plan_72 : decode cX11_plan 72 = .ok (.goto 5, 3) := by decide +kernel
theorem dX11_plan_75 : decode cX11_plan 75 = .ok (.bipush (-2), 2) := by decide +kernel
theorem dX11_plan_77 : decode cX11_plan 77 = .ok (.ireturn, 1) := by decide +kernel
theorem dX11_refuse_0 : decode cX11_refuse 0 = .ok (.iload_n 1, 1) := by decide +kernel
theorem dX11_refuse_1 : decode cX11_refuse 1 = .ok (.ifCond .lt 22, 3) := by decide +kernel
theorem dX11_refuse_4 : decode cX11_refuse 4 = .ok (.iload_n 1, 1) := by decide +kernel
theorem dX11_refuse_5 : decode cX11_refuse 5 = .ok (.aload_n 0, 1) := by decide +kernel
theorem dX11_refuse_6 : decode cX11_refuse 6 = .ok (.getfield 13, 3) := by decide +kernel
theorem dX11_refuse_9 : decode cX11_refuse 9 = .ok (.arraylength, 1) := by decide +kernel
theorem dX11_refuse_10 : decode cX11_refuse 10 = .ok (.if_icmp .ge 13, 3) := by decide +kernel
theorem dX11_refuse_13 : decode cX11_refuse 13 = .ok (.aload_n 0, 1) := by decide +kernel
theorem dX11_refuse_14 : decode cX11_refuse 14 = .ok (.getfield 13, 3) := by decide +kernel
theorem dX11_refuse_17 : decode cX11_refuse 17 = .ok (.iload_n 1, 1) := by decide +kernel
theorem dX11_refuse_18 : decode cX11_refuse 18 = .ok (.dup2, 1) := by decide +kernel
theorem dX11_refuse_19 : decode cX11_refuse 19 = .ok (.iaload, 1) := by decide +kernel
theorem dX11_refuse_20 : decode cX11_refuse 20 = .ok (.iconst 1, 1) := by decide +kernel
theorem dX11_refuse_21 : decode cX11_refuse 21 = .ok (.iadd, 1) := by decide +kernel
theorem dX11_refuse_22 : decode cX11_refuse 22 = .ok (.iastore, 1) := by decide +kernel
theorem dX11_refuse_23 : decode cX11_refuse 23 = .ok (.bipush (-2), 2) := by decide +kernel
theorem dX11_refuse_25 : decode cX11_refuse 25 = .ok (.ireturn, 1) := by decide +kernel
theorem dX11_rounds_0 : decode cX11_rounds 0 = .ok (.aload_n 0, 1) := by decide +kernel
theorem dX11_rounds_1 : decode cX11_rounds 1 = .ok (.getfield 31, 3) := by decide +kernel
theorem dX11_rounds_4 : decode cX11_rounds 4 = .ok (.getfield 202, 3) := by decide +kernel
theorem dX11_rounds_7 : decode cX11_rounds 7 = .ok (.iconst 1, 1) := by decide +kernel
theorem dX11_rounds_8 : decode cX11_rounds 8 = .ok (.if_icmp .lt 20, 3) := by decide +kernel
theorem dX11_rounds_11 : decode cX11_rounds 11 = .ok (.iload_n 1, 1) := by decide +kernel
theorem dX11_rounds_12 : decode cX11_rounds 12 = .ok (.ifCond .lt 16, 3) := by decide +kernel
theorem dX11_rounds_15 : decode cX11_rounds 15 = .ok (.iload_n 1, 1) := by decide +kernel
theorem dX11_rounds_16 : decode cX11_rounds 16 = .ok (.iconst 3, 1) := by decide +kernel
theorem dX11_rounds_17 : decode cX11_rounds 17 = .ok (.aload_n 0, 1) := by decide +kernel
theorem dX11_rounds_18 : decode cX11_rounds 18 = .ok (.getfield 31, 3) := by decide +kernel
theorem dX11_rounds_21 : decode cX11_rounds 21 = .ok (.getfield 116, 3) := by decide +kernel
theorem dX11_rounds_24 : decode cX11_rounds 24 = .ok (.iadd, 1) := by decide +kernel
theorem dX11_rounds_25 : decode cX11_rounds 25 = .ok (.if_icmp .lt 5, 3) := by decide +kernel
theorem dX11_rounds_28 : decode cX11_rounds 28 = .ok (.iconst (-1), 1) := by decide +kernel
theorem dX11_rounds_29 : decode cX11_rounds 29 = .ok (.ireturn, 1) := by decide +kernel
theorem dX11_rounds_30 : decode cX11_rounds 30 = .ok (.aload_n 0, 1) := by decide +kernel
theorem dX11_rounds_31 : decode cX11_rounds 31 = .ok (.getfield 62, 3) := by decide +kernel
theorem dX11_rounds_34 : decode cX11_rounds 34 = .ok (.invokevirtual 264, 3) := by decide +kernel
theorem dX11_rounds_37 : decode cX11_rounds 37 = .ok (.ifCond .ne 6, 3) := by decide +kernel
theorem dX11_rounds_40 : decode cX11_rounds 40 = .ok (.bipush (-2), 2) := by decide +kernel
theorem dX11_rounds_42 : decode cX11_rounds 42 = .ok (.ireturn, 1) := by decide +kernel
theorem dX11_rounds_43 : decode cX11_rounds 43 = .ok (.iload_n 1, 1) := by decide +kernel
theorem dX11_rounds_44 : decode cX11_rounds 44 = .ok (.tableswitch 52 0 2 #[28, 36, 44], 28) := by decide +kernel
theorem dX11_rounds_72 : decode cX11_rounds 72 = .ok (.aload_n 0, 1) := by decide +kernel
theorem dX11_rounds_73 : decode cX11_rounds 73 = .ok (.getfield 62, 3) := by decide +kernel
theorem dX11_rounds_76 : decode cX11_rounds 76 = .ok (.getfield 267, 3) := by decide +kernel
theorem dX11_rounds_79 : decode cX11_rounds 79 = .ok (.ireturn, 1) := by decide +kernel
theorem dX11_rounds_80 : decode cX11_rounds 80 = .ok (.aload_n 0, 1) := by decide +kernel
theorem dX11_rounds_81 : decode cX11_rounds 81 = .ok (.getfield 62, 3) := by decide +kernel
theorem dX11_rounds_84 : decode cX11_rounds 84 = .ok (.getfield 270, 3) := by decide +kernel
theorem dX11_rounds_87 : decode cX11_rounds 87 = .ok (.ireturn, 1) := by decide +kernel
theorem dX11_rounds_88 : decode cX11_rounds 88 = .ok (.aload_n 0, 1) := by decide +kernel
theorem dX11_rounds_89 : decode cX11_rounds 89 = .ok (.getfield 62, 3) := by decide +kernel
theorem dX11_rounds_92 : decode cX11_rounds 92 = .ok (.getfield 220, 3) := by decide +kernel
theorem dX11_rounds_95 : decode cX11_rounds 95 = .ok (.ireturn, 1) := by decide +kernel
theorem dX11_rounds_96 : decode cX11_rounds 96 = .ok (.aload_n 0, 1) := by decide +kernel
theorem dX11_rounds_97 : decode cX11_rounds 97 = .ok (.getfield 62, 3) := by decide +kernel
theorem dX11_rounds_100 : decode cX11_rounds 100 = .ok (.getfield 273, 3) := by decide +kernel
theorem dX11_rounds_103 : decode cX11_rounds 103 = .ok (.iload_n 1, 1) := by decide +kernel
theorem dX11_rounds_104 : decode cX11_rounds 104 = .ok (.iconst 3, 1) := by decide +kernel
theorem dX11_rounds_105 : decode cX11_rounds 105 = .ok (.isub, 1) := by decide +kernel
theorem dX11_rounds_106 : decode cX11_rounds 106 = .ok (.iaload, 1) := by decide +kernel
theorem dX11_rounds_107 : decode cX11_rounds 107 = .ok (.ireturn, 1) := by decide +kernel
theorem dX11_rule_0 : decode cX11_rule 0 = .ok (.aload_n 0, 1) := by decide +kernel
theorem dX11_rule_1 : decode cX11_rule 1 = .ok (.getfield 119, 3) := by decide +kernel
theorem dX11_rule_4 : decode cX11_rule 4 = .ok (.bipush 6, 2) := by decide +kernel
theorem dX11_rule_6 : decode cX11_rule 6 = .ok (.if_icmp .lt 5, 3) := by decide +kernel
theorem dX11_rule_9 : decode cX11_rule 9 = .ok (.iconst (-1), 1) := by decide +kernel
theorem dX11_rule_10 : decode cX11_rule 10 = .ok (.ireturn, 1) := by decide +kernel
theorem dX11_rule_11 : decode cX11_rule 11 = .ok (.aload_n 0, 1) := by decide +kernel
theorem dX11_rule_12 : decode cX11_rule 12 = .ok (.getfield 53, 3) := by decide +kernel
theorem dX11_rule_15 : decode cX11_rule 15 = .ok (.aload_n 0, 1) := by decide +kernel
theorem dX11_rule_16 : decode cX11_rule 16 = .ok (.getfield 9, 3) := by decide +kernel
theorem dX11_rule_19 : decode cX11_rule 19 = .ok (.aload_n 0, 1) := by decide +kernel
theorem dX11_rule_20 : decode cX11_rule 20 = .ok (.getfield 94, 3) := by decide +kernel
theorem dX11_rule_23 : decode cX11_rule 23 = .ok (.invokevirtual 122, 3) := by decide +kernel
theorem dX11_rule_26 : decode cX11_rule 26 = .ok (.istore_n 1, 1) := by decide +kernel
theorem dX11_rule_27 : decode cX11_rule 27 = .ok (.aload_n 0, 1) := by decide +kernel
theorem dX11_rule_28 : decode cX11_rule 28 = .ok (.iconst 0, 1) := by decide +kernel
theorem dX11_rule_29 : decode cX11_rule 29 = .ok (.putfield 94, 3) := by decide +kernel
theorem dX11_rule_32 : decode cX11_rule 32 = .ok (.iload_n 1, 1) := by decide +kernel
theorem dX11_rule_33 : decode cX11_rule 33 = .ok (.ifCond .eq 8, 3) := by decide +kernel
theorem dX11_rule_36 : decode cX11_rule 36 = .ok (.bipush (-2), 2) := by decide +kernel
theorem dX11_rule_38 : decode cX11_rule 38 = .ok (.iload_n 1, 1) := by decide +kernel
theorem dX11_rule_39 : decode cX11_rule 39 = .ok (.isub, 1) := by decide +kernel
theorem dX11_rule_40 : decode cX11_rule 40 = .ok (.ireturn, 1) := by decide +kernel
theorem dX11_rule_41 : decode cX11_rule 41 = .ok (.aload_n 0, 1) := by decide +kernel
theorem dX11_rule_42 : decode cX11_rule 42 = .ok (.getfield 35, 3) := by decide +kernel
theorem dX11_rule_45 : decode cX11_rule 45 = .ok (.aload_n 0, 1) := by decide +kernel
theorem dX11_rule_46 : decode cX11_rule 46 = .ok (.getfield 119, 3) := by decide +kernel
theorem dX11_rule_49 : decode cX11_rule 49 = .ok (.new 24, 3) := by decide +kernel
theorem dX11_rule_52 : decode cX11_rule 52 = .ok (.dup, 1) := by decide +kernel
theorem dX11_rule_53 : decode cX11_rule 53 = .ok (.aload_n 0, 1) := by decide +kernel
theorem dX11_rule_54 : decode cX11_rule 54 = .ok (.getfield 53, 3) := by decide +kernel
theorem dX11_rule_57 : decode cX11_rule 57 = .ok (.getfield 123, 3) := by decide +kernel
theorem dX11_rule_60 : decode cX11_rule 60 = .ok (.aload_n 0, 1) := by decide +kernel
theorem dX11_rule_61 : decode cX11_rule 61 = .ok (.getfield 53, 3) := by decide +kernel
theorem dX11_rule_64 : decode cX11_rule 64 = .ok (.getfield 126, 3) := by decide +kernel
theorem dX11_rule_67 : decode cX11_rule 67 = .ok (.invokespecial 129, 3) := by decide +kernel
theorem dX11_rule_70 : decode cX11_rule 70 = .ok (.aastore, 1) := by decide +kernel
theorem dX11_rule_71 : decode cX11_rule 71 = .ok (.aload_n 0, 1) := by decide +kernel
theorem dX11_rule_72 : decode cX11_rule 72 = .ok (.dup, 1) := by decide +kernel
theorem dX11_rule_73 : decode cX11_rule 73 = .ok (.getfield 119, 3) := by decide +kernel
theorem dX11_rule_76 : decode cX11_rule 76 = .ok (.iconst 1, 1) := by decide +kernel
theorem dX11_rule_77 : decode cX11_rule 77 = .ok (.iadd, 1) := by decide +kernel
theorem dX11_rule_78 : decode cX11_rule 78 = .ok (.putfield 119, 3) := by decide +kernel
theorem dX11_rule_81 : decode cX11_rule 81 = .ok (.aload_n 0, 1) := by decide +kernel
theorem dX11_rule_82 : decode cX11_rule 82 = .ok (.getfield 119, 3) := by decide +kernel
theorem dX11_rule_85 : decode cX11_rule 85 = .ok (.iconst 1, 1) := by decide +kernel
theorem dX11_rule_86 : decode cX11_rule 86 = .ok (.isub, 1) := by decide +kernel
theorem dX11_rule_87 : decode cX11_rule 87 = .ok (.ireturn, 1) := by decide +kernel
theorem dX11_says_0 : decode cX11_says 0 = .ok (.aload_n 0, 1) := by decide +kernel
theorem dX11_says_1 : decode cX11_says 1 = .ok (.getfield 31, 3) := by decide +kernel
theorem dX11_says_4 : decode cX11_says 4 = .ok (.iload_n 1, 1) := by decide +kernel
theorem dX11_says_5 : decode cX11_says 5 = .ok (.invokevirtual 132, 3) := by decide +kernel
theorem dX11_says_8 : decode cX11_says 8 = .ok (.ifCond .eq 25, 3) := by decide +kernel
theorem dX11_says_11 : decode cX11_says 11 = .ok (.aload_n 0, 1) := by decide +kernel
theorem dX11_says_12 : decode cX11_says 12 = .ok (.getfield 31, 3) := by decide +kernel
theorem dX11_says_15 : decode cX11_says 15 = .ok (.iload_n 1, 1) := by decide +kernel
theorem dX11_says_16 : decode cX11_says 16 = .ok (.invokevirtual 162, 3) := by decide +kernel
theorem dX11_says_19 : decode cX11_says 19 = .ok (.ifCond .eq 14, 3) := by decide +kernel
theorem dX11_says_22 : decode cX11_says 22 = .ok (.aload_n 0, 1) := by decide +kernel
theorem dX11_says_23 : decode cX11_says 23 = .ok (.getfield 31, 3) := by decide +kernel
theorem dX11_says_26 : decode cX11_says 26 = .ok (.iload_n 2, 1) := by decide +kernel
theorem dX11_says_27 : decode cX11_says 27 = .ok (.invokevirtual 151, 3) := by decide +kernel
theorem dX11_says_30 : decode cX11_says 30 = .ok (.ifCond .ne 5, 3) := by decide +kernel
theorem dX11_says_33 : decode cX11_says 33 = .ok (.iconst (-1), 1) := by decide +kernel
theorem dX11_says_34 : decode cX11_says 34 = .ok (.ireturn, 1) := by decide +kernel
theorem dX11_says_35 : decode cX11_says 35 = .ok (.aload_n 0, 1) := by decide +kernel
theorem dX11_says_36 : decode cX11_says 36 = .ok (.getfield 39, 3) := by decide +kernel
theorem dX11_says_39 : decode cX11_says 39 = .ok (.iload_n 2, 1) := by decide +kernel
theorem dX11_says_40 : decode cX11_says 40 = .ok (.aload_n 0, 1) := by decide +kernel
theorem dX11_says_41 : decode cX11_says 41 = .ok (.getfield 31, 3) := by decide +kernel
theorem dX11_says_44 : decode cX11_says 44 = .ok (.getfield 136, 3) := by decide +kernel
theorem dX11_says_47 : decode cX11_says 47 = .ok (.aload_n 0, 1) := by decide +kernel
theorem dX11_says_48 : decode cX11_says 48 = .ok (.getfield 31, 3) := by decide +kernel
theorem dX11_says_51 : decode cX11_says 51 = .ok (.getfield 180, 3) := by decide +kernel
theorem dX11_says_54 : decode cX11_says 54 = .ok (.invokevirtual 183, 3) := by decide +kernel
theorem dX11_says_57 : decode cX11_says 57 = .ok (.aload_n 0, 1) := by decide +kernel
theorem dX11_says_58 : decode cX11_says 58 = .ok (.getfield 39, 3) := by decide +kernel
theorem dX11_says_61 : decode cX11_says 61 = .ok (.iconst 1, 1) := by decide +kernel
theorem dX11_says_62 : decode cX11_says 62 = .ok (.iload_n 1, 1) := by decide +kernel
theorem dX11_says_63 : decode cX11_says 63 = .ok (.ishl, 1) := by decide +kernel
theorem dX11_says_64 : decode cX11_says 64 = .ok (.invokevirtual 187, 3) := by decide +kernel
theorem dX11_says_67 : decode cX11_says 67 = .ok (.aload_n 0, 1) := by decide +kernel
theorem dX11_says_68 : decode cX11_says 68 = .ok (.getfield 39, 3) := by decide +kernel
theorem dX11_says_71 : decode cX11_says 71 = .ok (.getfield 190, 3) := by decide +kernel
theorem dX11_says_74 : decode cX11_says 74 = .ok (.ifCond .eq 7, 3) := by decide +kernel
theorem dX11_says_77 : decode cX11_says 77 = .ok (.iconst 1, 1) := by decide +kernel
theorem dX11_says_78 : decode cX11_says 78 = .ok (.goto 18, 3) := by decide +kernel
theorem dX11_says_81 : decode cX11_says 81 = .ok (.aload_n 0, 1) := by decide +kernel
theorem dX11_says_82 : decode cX11_says 82 = .ok (.getfield 39, 3) := by decide +kernel
theorem dX11_says_85 : decode cX11_says 85 = .ok (.getfield 193, 3) := by decide +kernel
theorem dX11_says_88 : decode cX11_says 88 = .ok (.ifCond .eq 7, 3) := by decide +kernel
theorem dX11_says_91 : decode cX11_says 91 = .ok (.iconst 0, 1) := by decide +kernel
theorem dX11_says_92 : decode cX11_says 92 = .ok (.goto 4, 3) := by decide +kernel
theorem dX11_says_95 : decode cX11_says 95 = .ok (.iconst 2, 1) := by decide +kernel
theorem dX11_says_96 : decode cX11_says 96 = .ok (.ireturn, 1) := by decide +kernel
theorem dX11_seed_0 : decode cX11_seed 0 = .ok (.iload_n 1, 1) := by decide +kernel
theorem dX11_seed_1 : decode cX11_seed 1 = .ok (.ifCond .ge 9, 3) := by decide +kernel
theorem dX11_seed_4 : decode cX11_seed 4 = .ok (.aload_n 0, 1) := by decide +kernel
theorem dX11_seed_5 : decode cX11_seed 5 = .ok (.iconst 0, 1) := by decide +kernel
theorem dX11_seed_6 : decode cX11_seed 6 = .ok (.invokevirtual 158, 3) := by decide +kernel
theorem dX11_seed_9 : decode cX11_seed 9 = .ok (.ireturn, 1) := by decide +kernel
theorem dX11_seed_10 : decode cX11_seed 10 = .ok (.aload_n 0, 1) := by decide +kernel
theorem dX11_seed_11 : decode cX11_seed 11 = .ok (.getfield 31, 3) := by decide +kernel
theorem dX11_seed_14 : decode cX11_seed 14 = .ok (.getfield 106, 3) := by decide +kernel
theorem dX11_seed_17 : decode cX11_seed 17 = .ok (.istore_n 2, 1) := by decide +kernel
theorem dX11_seed_18 : decode cX11_seed 18 = .ok (.aload_n 0, 1) := by decide +kernel
theorem dX11_seed_19 : decode cX11_seed 19 = .ok (.getfield 31, 3) := by decide +kernel
theorem dX11_seed_22 : decode cX11_seed 22 = .ok (.iload_n 1, 1) := by decide +kernel
theorem dX11_seed_23 : decode cX11_seed 23 = .ok (.putfield 106, 3) := by decide +kernel
theorem dX11_seed_26 : decode cX11_seed 26 = .ok (.iload_n 2, 1) := by decide +kernel
theorem dX11_seed_27 : decode cX11_seed 27 = .ok (.ireturn, 1) := by decide +kernel
theorem dX11_sides_0 : decode cX11_sides 0 = .ok (.aload_n 0, 1) := by decide +kernel
theorem dX11_sides_1 : decode cX11_sides 1 = .ok (.getfield 31, 3) := by decide +kernel
theorem dX11_sides_4 : decode cX11_sides 4 = .ok (.iload_n 1, 1) := by decide +kernel
theorem dX11_sides_5 : decode cX11_sides 5 = .ok (.invokevirtual 242, 3) := by decide +kernel
theorem dX11_sides_8 : decode cX11_sides 8 = .ok (.ifCond .eq 24, 3) := by decide +kernel
theorem dX11_sides_11 : decode cX11_sides 11 = .ok (.aload_n 0, 1) := by decide +kernel
theorem dX11_sides_12 : decode cX11_sides 12 = .ok (.getfield 31, 3) := by decide +kernel
theorem dX11_sides_15 : decode cX11_sides 15 = .ok (.iload_n 2, 1) := by decide +kernel
theorem dX11_sides_16 : decode cX11_sides 16 = .ok (.invokevirtual 242, 3) := by decide +kernel
theorem dX11_sides_19 : decode cX11_sides 19 = .ok (.ifCond .eq 13, 3) := by decide +kernel
theorem dX11_sides_22 : decode cX11_sides 22 = .ok (.iload_n 1, 1) := by decide +kernel
theorem dX11_sides_23 : decode cX11_sides 23 = .ok (.iload_n 2, 1) := by decide +kernel
theorem dX11_sides_24 : decode cX11_sides 24 = .ok (.iand, 1) := by decide +kernel
theorem dX11_sides_25 : decode cX11_sides 25 = .ok (.ifCond .ne 7, 3) := by decide +kernel
theorem dX11_sides_28 : decode cX11_sides 28 = .ok (.iconst 1, 1) := by decide +kernel
theorem dX11_sides_29 : decode cX11_sides 29 = .ok (.goto 4, 3) := by decide +kernel
theorem dX11_sides_32 : decode cX11_sides 32 = .ok (.iconst 0, 1) := by decide +kernel
theorem dX11_sides_33 : decode cX11_sides 33 = .ok (.istore 4, 2) := by decide +kernel
theorem dX11_sides_35 : decode cX11_sides 35 = .ok (.iload 4, 2) := by decide +kernel
theorem dX11_sides_37 : decode cX11_sides 37 = .ok (.ifCond .eq 22, 3) := by decide +kernel
theorem dX11_sides_40 : decode cX11_sides 40 = .ok (.aload_n 0, 1) := by decide +kernel
theorem dX11_sides_41 : decode cX11_sides 41 = .ok (.getfield 31, 3) := by decide +kernel
theorem dX11_sides_44 : decode cX11_sides 44 = .ok (.invokevirtual 245, 3) := by decide +kernel
theorem dX11_sides_47 : decode cX11_sides 47 = .ok (.ifCond .eq 12, 3) := by decide +kernel
theorem dX11_sides_50 : decode cX11_sides 50 = .ok (.iload_n 3, 1) := by decide +kernel
theorem dX11_sides_51 : decode cX11_sides 51 = .ok (.ifCond .lt 8, 3) := by decide +kernel
theorem dX11_sides_54 : decode cX11_sides 54 = .ok (.iload_n 3, 1) := by decide +kernel
theorem dX11_sides_55 : decode cX11_sides 55 = .ok (.iconst 1, 1) := by decide +kernel
theorem dX11_sides_56 : decode cX11_sides 56 = .ok (.if_icmp .le 6, 3) := by decide +kernel
theorem dX11_sides_59 : decode cX11_sides 59 = .ok (.ldc 215, 2) := by decide +kernel
theorem dX11_sides_61 : decode cX11_sides 61 = .ok (.ireturn, 1) := by decide +kernel
theorem dX11_sides_62 : decode cX11_sides 62 = .ok (.aload_n 0, 1) := by decide +kernel
theorem dX11_sides_63 : decode cX11_sides 63 = .ok (.getfield 76, 3) := by decide +kernel
theorem dX11_sides_66 : decode cX11_sides 66 = .ok (.iload_n 1, 1) := by decide +kernel
theorem dX11_sides_67 : decode cX11_sides 67 = .ok (.iload_n 2, 1) := by decide +kernel
theorem dX11_sides_68 : decode cX11_sides 68 = .ok (.invokevirtual 248, 3) := by decide +kernel
theorem dX11_sides_71 : decode cX11_sides 71 = .ok (.istore 5, 2) := by decide +kernel
theorem dX11_sides_73 : decode cX11_sides 73 = .ok (.iload_n 3, 1) := by decide +kernel
theorem dX11_sides_74 : decode cX11_sides 74 = .ok (.ifCond .ne 8, 3) := by decide +kernel
theorem dX11_sides_77 : decode cX11_sides 77 = .ok (.iload 5, 2) := by decide +kernel
theorem dX11_sides_79 : decode cX11_sides 79 = .ok (.goto 10, 3) := by decide +kernel
theorem dX11_sides_82 : decode cX11_sides 82 = .ok (.aload_n 0, 1) := by decide +kernel
theorem dX11_sides_83 : decode cX11_sides 83 = .ok (.getfield 76, 3) := by decide +kernel
theorem dX11_sides_86 : decode cX11_sides 86 = .ok (.getfield 251, 3) := by decide +kernel
theorem dX11_sides_89 : decode cX11_sides 89 = .ok (.ireturn, 1) := by decide +kernel
theorem dX11_spoilers_0 : decode cX11_spoilers 0 = .ok (.aload_n 0, 1) := by decide +kernel
theorem dX11_spoilers_1 : decode cX11_spoilers 1 = .ok (.iload_n 1, 1) := by decide +kernel
theorem dX11_spoilers_2 : decode cX11_spoilers 2 = .ok (.invokevirtual 226, 3) := by decide +kernel
theorem dX11_spoilers_5 : decode cX11_spoilers 5 = .ok (.ifCond .ne 5, 3) := by decide +kernel
theorem dX11_spoilers_8 : decode cX11_spoilers 8 = .ok (.iconst (-1), 1) := by decide +kernel
theorem dX11_spoilers_9 : decode cX11_spoilers 9 = .ok (.ireturn, 1) := by decide +kernel
theorem dX11_spoilers_10 : decode cX11_spoilers 10 = .ok (.aload_n 0, 1) := by decide +kernel
theorem dX11_spoilers_11 : decode cX11_spoilers 11 = .ok (.getfield 69, 3) := by decide +kernel
theorem dX11_spoilers_14 : decode cX11_spoilers 14 = .ok (.iload_n 1, 1) := by decide +kernel
theorem dX11_spoilers_15 : decode cX11_spoilers 15 = .ok (.invokevirtual 229, 3) := by decide +kernel
theorem dX11_spoilers_18 : decode cX11_spoilers 18 = .ok (.ifCond .eq 13, 3) := by decide +kernel
theorem dX11_spoilers_21 : decode cX11_spoilers 21 = .ok (.aload_n 0, 1) := by decide +kernel
theorem dX11_spoilers_22 : decode cX11_spoilers 22 = .ok (.getfield 69, 3) := by decide +kernel
theorem dX11_spoilers_25 : decode cX11_spoilers 25 = .ok (.invokevirtual 238, 3) := by decide +kernel
theorem dX11_spoilers_28 : decode cX11_spoilers 28 = .ok (.goto 5, 3) := by decide +kernel
theorem dX11_spoilers_31 : decode cX11_spoilers 31 = .ok (.bipush (-2), 2) := by decide +kernel
theorem dX11_spoilers_33 : decode cX11_spoilers 33 = .ok (.ireturn, 1) := by decide +kernel
theorem dX11_status_0 : decode cX11_status 0 = .ok (.iload_n 1, 1) := by decide +kernel
theorem dX11_status_1 : decode cX11_status 1 = .ok (.ifCond .lt 21, 3) := by decide +kernel
theorem dX11_status_4 : decode cX11_status 4 = .ok (.iload_n 1, 1) := by decide +kernel
theorem dX11_status_5 : decode cX11_status 5 = .ok (.aload_n 0, 1) := by decide +kernel
theorem dX11_status_6 : decode cX11_status 6 = .ok (.getfield 13, 3) := by decide +kernel
theorem dX11_status_9 : decode cX11_status 9 = .ok (.arraylength, 1) := by decide +kernel
theorem dX11_status_10 : decode cX11_status 10 = .ok (.if_icmp .ge 12, 3) := by decide +kernel
theorem dX11_status_13 : decode cX11_status 13 = .ok (.aload_n 0, 1) := by decide +kernel
theorem dX11_status_14 : decode cX11_status 14 = .ok (.getfield 13, 3) := by decide +kernel
theorem dX11_status_17 : decode cX11_status 17 = .ok (.iload_n 1, 1) := by decide +kernel
theorem dX11_status_18 : decode cX11_status 18 = .ok (.iaload, 1) := by decide +kernel
theorem dX11_status_19 : decode cX11_status 19 = .ok (.goto 4, 3) := by decide +kernel
theorem dX11_status_22 : decode cX11_status 22 = .ok (.iconst (-1), 1) := by decide +kernel
theorem dX11_status_23 : decode cX11_status 23 = .ok (.ireturn, 1) := by decide +kernel
theorem dX11_tells_0 : decode cX11_tells 0 = .ok (.aload_n 0, 1) := by decide +kernel
theorem dX11_tells_1 : decode cX11_tells 1 = .ok (.iload_n 1, 1) := by decide +kernel
theorem dX11_tells_2 : decode cX11_tells 2 = .ok (.invokevirtual 287, 3) := by decide +kernel
theorem dX11_tells_5 : decode cX11_tells 5 = .ok (.ifCond .eq 12, 3) := by decide +kernel
theorem dX11_tells_8 : decode cX11_tells 8 = .ok (.iload_n 2, 1) := by decide +kernel
theorem dX11_tells_9 : decode cX11_tells 9 = .ok (.ifCond .lt 8, 3) := by decide +kernel
theorem dX11_tells_12 : decode cX11_tells 12 = .ok (.iload_n 2, 1) := by decide +kernel
theorem dX11_tells_13 : decode cX11_tells 13 = .ok (.iconst 1, 1) := by decide +kernel
theorem dX11_tells_14 : decode cX11_tells 14 = .ok (.if_icmp .le 5, 3) := by decide +kernel
theorem dX11_tells_17 : decode cX11_tells 17 = .ok (.iconst (-1), 1) := by decide +kernel
theorem dX11_tells_18 : decode cX11_tells 18 = .ok (.ireturn, 1) := by decide +kernel
theorem dX11_tells_19 : decode cX11_tells 19 = .ok (.aload_n 0, 1) := by decide +kernel
theorem dX11_tells_20 : decode cX11_tells 20 = .ok (.getfield 90, 3) := by decide +kernel
theorem dX11_tells_23 : decode cX11_tells 23 = .ok (.iload_n 1, 1) := by decide +kernel
theorem dX11_tells_24 : decode cX11_tells 24 = .ok (.iconst 1, 1) := by decide +kernel
theorem dX11_tells_25 : decode cX11_tells 25 = .ok (.invokevirtual 290, 3) := by decide +kernel
theorem dX11_tells_28 : decode cX11_tells 28 = .ok (.aload_n 0, 1) := by decide +kernel
theorem dX11_tells_29 : decode cX11_tells 29 = .ok (.getfield 90, 3) := by decide +kernel
theorem dX11_tells_32 : decode cX11_tells 32 = .ok (.invokevirtual 301, 3) := by decide +kernel
theorem dX11_tells_35 : decode cX11_tells 35 = .ok (.iload_n 2, 1) := by decide +kernel
theorem dX11_tells_36 : decode cX11_tells 36 = .ok (.ifCond .ne 13, 3) := by decide +kernel
theorem dX11_tells_39 : decode cX11_tells 39 = .ok (.aload_n 0, 1) := by decide +kernel
theorem dX11_tells_40 : decode cX11_tells 40 = .ok (.getfield 90, 3) := by decide +kernel
theorem dX11_tells_43 : decode cX11_tells 43 = .ok (.getfield 304, 3) := by decide +kernel
theorem dX11_tells_46 : decode cX11_tells 46 = .ok (.goto 10, 3) := by decide +kernel
theorem dX11_tells_49 : decode cX11_tells 49 = .ok (.aload_n 0, 1) := by decide +kernel
theorem dX11_tells_50 : decode cX11_tells 50 = .ok (.getfield 90, 3) := by decide +kernel
theorem dX11_tells_53 : decode cX11_tells 53 = .ok (.getfield 307, 3) := by decide +kernel
theorem dX11_tells_56 : decode cX11_tells 56 = .ok (.ireturn, 1) := by decide +kernel
theorem dX11_voice_0 : decode cX11_voice 0 = .ok (.aload_n 0, 1) := by decide +kernel
theorem dX11_voice_1 : decode cX11_voice 1 = .ok (.getfield 31, 3) := by decide +kernel
theorem dX11_voice_4 : decode cX11_voice 4 = .ok (.iload_n 1, 1) := by decide +kernel
theorem dX11_voice_5 : decode cX11_voice 5 = .ok (.invokevirtual 132, 3) := by decide +kernel
theorem dX11_voice_8 : decode cX11_voice 8 = .ok (.ifCond .ne 5, 3) := by decide +kernel
theorem dX11_voice_11 : decode cX11_voice 11 = .ok (.iconst (-1), 1) := by decide +kernel
theorem dX11_voice_12 : decode cX11_voice 12 = .ok (.ireturn, 1) := by decide +kernel
theorem dX11_voice_13 : decode cX11_voice 13 = .ok (.iload_n 2, 1) := by decide +kernel
theorem dX11_voice_14 : decode cX11_voice 14 = .ok (.tableswitch 86 0 4 #[34, 44, 54, 66, 76], 34) := by decide +kernel
theorem dX11_voice_48 : decode cX11_voice 48 = .ok (.aload_n 0, 1) := by decide +kernel
theorem dX11_voice_49 : decode cX11_voice 49 = .ok (.getfield 31, 3) := by decide +kernel
theorem dX11_voice_52 : decode cX11_voice 52 = .ok (.getfield 136, 3) := by decide +kernel
theorem dX11_voice_55 : decode cX11_voice 55 = .ok (.iload_n 1, 1) := by decide +kernel
theorem dX11_voice_56 : decode cX11_voice 56 = .ok (.iaload, 1) := by decide +kernel
theorem dX11_voice_57 : decode cX11_voice 57 = .ok (.ireturn, 1) := by decide +kernel
theorem dX11_voice_58 : decode cX11_voice 58 = .ok (.aload_n 0, 1) := by decide +kernel
theorem dX11_voice_59 : decode cX11_voice 59 = .ok (.getfield 31, 3) := by decide +kernel
theorem dX11_voice_62 : decode cX11_voice 62 = .ok (.getfield 139, 3) := by decide +kernel
theorem dX11_voice_65 : decode cX11_voice 65 = .ok (.iload_n 1, 1) := by decide +kernel
theorem dX11_voice_66 : decode cX11_voice 66 = .ok (.iaload, 1) := by decide +kernel
theorem dX11_voice_67 : decode cX11_voice 67 = .ok (.ireturn, 1) := by decide +kernel
theorem dX11_voice_68 : decode cX11_voice 68 = .ok (.aload_n 0, 1) := by decide +kernel
theorem dX11_voice_69 : decode cX11_voice 69 = .ok (.getfield 31, 3) := by decide +kernel
theorem dX11_voice_72 : decode cX11_voice 72 = .ok (.getfield 142, 3) := by decide +kernel
theorem dX11_voice_75 : decode cX11_voice 75 = .ok (.iload_n 1, 1) := by decide +kernel
theorem dX11_voice_76 : decode cX11_voice 76 = .ok (.ishr, 1) := by decide +kernel
theorem dX11_voice_77 : decode cX11_voice 77 = .ok (.iconst 1, 1) := by decide +kernel
theorem dX11_voice_78 : decode cX11_voice 78 = .ok (.iand, 1) := by decide +kernel
theorem dX11_voice_79 : decode cX11_voice 79 = .ok (.ireturn, 1) := by decide +kernel
theorem dX11_voice_80 : decode cX11_voice 80 = .ok (.aload_n 0, 1) := by decide +kernel
theorem dX11_voice_81 : decode cX11_voice 81 = .ok (.getfield 31, 3) := by decide +kernel
theorem dX11_voice_84 : decode cX11_voice 84 = .ok (.getfield 145, 3) := by decide +kernel
theorem dX11_voice_87 : decode cX11_voice 87 = .ok (.iload_n 1, 1) := by decide +kernel
theorem dX11_voice_88 : decode cX11_voice 88 = .ok (.iaload, 1) := by decide +kernel
theorem dX11_voice_89 : decode cX11_voice 89 = .ok (.ireturn, 1) := by decide +kernel
theorem dX11_voice_90 : decode cX11_voice 90 = .ok (.aload_n 0, 1) := by decide +kernel
theorem dX11_voice_91 : decode cX11_voice 91 = .ok (.getfield 31, 3) := by decide +kernel
theorem dX11_voice_94 : decode cX11_voice 94 = .ok (.getfield 148, 3) := by decide +kernel
theorem dX11_voice_97 : decode cX11_voice 97 = .ok (.iload_n 1, 1) := by decide +kernel
theorem dX11_voice_98 : decode cX11_voice 98 = .ok (.iaload, 1) := by decide +kernel
theorem dX11_voice_99 : decode cX11_voice 99 = .ok (.ireturn, 1) := by decide +kernel
theorem dX11_voice_100 : decode cX11_voice 100 = .ok (.iconst (-1), 1) := by decide +kernel
theorem dX11_voice_101 : decode cX11_voice 101 = .ok (.ireturn, 1) := by decide +kernel
theorem dX11_vote_0 : decode cX11_vote 0 = .ok (.aload_n 0, 1) := by decide +kernel
theorem dX11_vote_1 : decode cX11_vote 1 = .ok (.getfield 31, 3) := by decide +kernel
theorem dX11_vote_4 : decode cX11_vote 4 = .ok (.iload_n 1, 1) := by decide +kernel
theorem dX11_vote_5 : decode cX11_vote 5 = .ok (.invokevirtual 151, 3) := by decide +kernel
theorem dX11_vote_8 : decode cX11_vote 8 = .ok (.ifCond .ne 9, 3) := by decide +kernel
theorem dX11_vote_11 : decode cX11_vote 11 = .ok (.aload_n 0, 1) := by decide +kernel
theorem dX11_vote_12 : decode cX11_vote 12 = .ok (.iconst 0, 1) := by decide +kernel
theorem dX11_vote_13 : decode cX11_vote 13 = .ok (.invokevirtual 158, 3) := by decide +kernel
theorem dX11_vote_16 : decode cX11_vote 16 = .ok (.ireturn, 1) := by decide +kernel
theorem dX11_vote_17 : decode cX11_vote 17 = .ok (.aload_n 0, 1) := by decide +kernel
theorem dX11_vote_18 : decode cX11_vote 18 = .ok (.getfield 39, 3) := by decide +kernel
theorem dX11_vote_21 : decode cX11_vote 21 = .ok (.iload_n 1, 1) := by decide +kernel
theorem dX11_vote_22 : decode cX11_vote 22 = .ok (.aload_n 0, 1) := by decide +kernel
theorem dX11_vote_23 : decode cX11_vote 23 = .ok (.getfield 31, 3) := by decide +kernel
theorem dX11_vote_26 : decode cX11_vote 26 = .ok (.getfield 136, 3) := by decide +kernel
theorem dX11_vote_29 : decode cX11_vote 29 = .ok (.aload_n 0, 1) := by decide +kernel
theorem dX11_vote_30 : decode cX11_vote 30 = .ok (.getfield 31, 3) := by decide +kernel
theorem dX11_vote_33 : decode cX11_vote 33 = .ok (.getfield 180, 3) := by decide +kernel
theorem dX11_vote_36 : decode cX11_vote 36 = .ok (.invokevirtual 183, 3) := by decide +kernel
theorem dX11_vote_39 : decode cX11_vote 39 = .ok (.aload_n 0, 1) := by decide +kernel
theorem dX11_vote_40 : decode cX11_vote 40 = .ok (.getfield 39, 3) := by decide +kernel
theorem dX11_vote_43 : decode cX11_vote 43 = .ok (.aload_n 0, 1) := by decide +kernel
theorem dX11_vote_44 : decode cX11_vote 44 = .ok (.getfield 31, 3) := by decide +kernel
theorem dX11_vote_47 : decode cX11_vote 47 = .ok (.getfield 142, 3) := by decide +kernel
theorem dX11_vote_50 : decode cX11_vote 50 = .ok (.invokevirtual 187, 3) := by decide +kernel
theorem dX11_vote_53 : decode cX11_vote 53 = .ok (.aload_n 0, 1) := by decide +kernel
theorem dX11_vote_54 : decode cX11_vote 54 = .ok (.getfield 39, 3) := by decide +kernel
theorem dX11_vote_57 : decode cX11_vote 57 = .ok (.aload_n 0, 1) := by decide +kernel
theorem dX11_vote_58 : decode cX11_vote 58 = .ok (.getfield 39, 3) := by decide +kernel
theorem dX11_vote_61 : decode cX11_vote 61 = .ok (.getfield 190, 3) := by decide +kernel
theorem dX11_vote_64 : decode cX11_vote 64 = .ok (.aload_n 0, 1) := by decide +kernel
theorem dX11_vote_65 : decode cX11_vote 65 = .ok (.getfield 39, 3) := by decide +kernel
theorem dX11_vote_68 : decode cX11_vote 68 = .ok (.getfield 193, 3) := by decide +kernel
theorem dX11_vote_71 : decode cX11_vote 71 = .ok (.invokevirtual 196, 3) := by decide +kernel
theorem dX11_vote_74 : decode cX11_vote 74 = .ok (.ireturn, 1) := by decide +kernel
theorem dX11_worth_0 : decode cX11_worth 0 = .ok (.aload_n 0, 1) := by decide +kernel
theorem dX11_worth_1 : decode cX11_worth 1 = .ok (.getfield 31, 3) := by decide +kernel
theorem dX11_worth_4 : decode cX11_worth 4 = .ok (.iload_n 1, 1) := by decide +kernel
theorem dX11_worth_5 : decode cX11_worth 5 = .ok (.invokevirtual 132, 3) := by decide +kernel
theorem dX11_worth_8 : decode cX11_worth 8 = .ok (.ifCond .eq 26, 3) := by decide +kernel
theorem dX11_worth_11 : decode cX11_worth 11 = .ok (.aload_n 0, 1) := by decide +kernel
theorem dX11_worth_12 : decode cX11_worth 12 = .ok (.getfield 31, 3) := by decide +kernel
theorem dX11_worth_15 : decode cX11_worth 15 = .ok (.iload_n 2, 1) := by decide +kernel
theorem dX11_worth_16 : decode cX11_worth 16 = .ok (.invokevirtual 151, 3) := by decide +kernel
theorem dX11_worth_19 : decode cX11_worth 19 = .ok (.ifCond .eq 15, 3) := by decide +kernel
theorem dX11_worth_22 : decode cX11_worth 22 = .ok (.aload_n 0, 1) := by decide +kernel
theorem dX11_worth_23 : decode cX11_worth 23 = .ok (.getfield 31, 3) := by decide +kernel
theorem dX11_worth_26 : decode cX11_worth 26 = .ok (.iload_n 1, 1) := by decide +kernel
theorem dX11_worth_27 : decode cX11_worth 27 = .ok (.iload_n 2, 1) := by decide +kernel
theorem dX11_worth_28 : decode cX11_worth 28 = .ok (.invokevirtual 154, 3) := by decide +kernel
theorem dX11_worth_31 : decode cX11_worth 31 = .ok (.goto 6, 3) := by decide +kernel
theorem dX11_worth_34 : decode cX11_worth 34 = .ok (.sipush (-1000), 3) := by decide +kernel
theorem dX11_worth_37 : decode cX11_worth 37 = .ok (.ireturn, 1) := by decide +kernel
theorem dX11_year_0 : decode cX11_year 0 = .ok (.aload_n 0, 1) := by decide +kernel
theorem dX11_year_1 : decode cX11_year 1 = .ok (.getfield 31, 3) := by decide +kernel
theorem dX11_year_4 : decode cX11_year 4 = .ok (.iload_n 2, 1) := by decide +kernel
theorem dX11_year_5 : decode cX11_year 5 = .ok (.invokevirtual 132, 3) := by decide +kernel
theorem dX11_year_8 : decode cX11_year 8 = .ok (.ifCond .eq 17, 3) := by decide +kernel
theorem dX11_year_11 : decode cX11_year 11 = .ok (.aload_n 0, 1) := by decide +kernel
theorem dX11_year_12 : decode cX11_year 12 = .ok (.getfield 31, 3) := by decide +kernel
theorem dX11_year_15 : decode cX11_year 15 = .ok (.getfield 310, 3) := by decide +kernel
theorem dX11_year_18 : decode cX11_year 18 = .ok (.ifCond .le 7, 3) := by decide +kernel
theorem dX11_year_21 : decode cX11_year 21 = .ok (.iconst 1, 1) := by decide +kernel
theorem dX11_year_22 : decode cX11_year 22 = .ok (.goto 4, 3) := by decide +kernel
theorem dX11_year_25 : decode cX11_year 25 = .ok (.iconst 0, 1) := by decide +kernel
theorem dX11_year_26 : decode cX11_year 26 = .ok (.istore 4, 2) := by decide +kernel
theorem dX11_year_28 : decode cX11_year 28 = .ok (.iload 4, 2) := by decide +kernel
theorem dX11_year_30 : decode cX11_year 30 = .ok (.ifCond .eq 24, 3) := by decide +kernel
theorem dX11_year_33 : decode cX11_year 33 = .ok (.iload_n 1, 1) := by decide +kernel
theorem dX11_year_34 : decode cX11_year 34 = .ok (.iconst 1, 1) := by decide +kernel
theorem dX11_year_35 : decode cX11_year 35 = .ok (.if_icmp .lt 19, 3) := by decide +kernel
theorem dX11_year_38 : decode cX11_year 38 = .ok (.iload_n 1, 1) := by decide +kernel
theorem dX11_year_39 : decode cX11_year 39 = .ok (.sipush 400, 3) := by decide +kernel
theorem dX11_year_42 : decode cX11_year 42 = .ok (.if_icmp .gt 12, 3) := by decide +kernel
theorem dX11_year_45 : decode cX11_year 45 = .ok (.iload_n 3, 1) := by decide +kernel
theorem dX11_year_46 : decode cX11_year 46 = .ok (.ifCond .lt 8, 3) := by decide +kernel
theorem dX11_year_49 : decode cX11_year 49 = .ok (.iload_n 3, 1) := by decide +kernel
theorem dX11_year_50 : decode cX11_year 50 = .ok (.iconst 2, 1) := by decide +kernel
theorem dX11_year_51 : decode cX11_year 51 = .ok (.if_icmp .le 6, 3) := by decide +kernel
theorem dX11_year_54 : decode cX11_year 54 = .ok (.ldc 215, 2) := by decide +kernel
theorem dX11_year_56 : decode cX11_year 56 = .ok (.ireturn, 1) := by decide +kernel
theorem dX11_year_57 : decode cX11_year 57 = .ok (.aload_n 0, 1) := by decide +kernel
theorem dX11_year_58 : decode cX11_year 58 = .ok (.getfield 62, 3) := by decide +kernel
theorem dX11_year_61 : decode cX11_year 61 = .ok (.iload_n 1, 1) := by decide +kernel
theorem dX11_year_62 : decode cX11_year 62 = .ok (.iload_n 2, 1) := by decide +kernel
theorem dX11_year_63 : decode cX11_year 63 = .ok (.invokevirtual 313, 3) := by decide +kernel
theorem dX11_year_66 : decode cX11_year 66 = .ok (.iload_n 3, 1) := by decide +kernel
theorem dX11_year_67 : decode cX11_year 67 = .ok (.lookupswitch 41 #[(0, 25), (1, 33)], 25) := by decide +kernel
theorem dX11_year_92 : decode cX11_year 92 = .ok (.aload_n 0, 1) := by decide +kernel
theorem dX11_year_93 : decode cX11_year 93 = .ok (.getfield 62, 3) := by decide +kernel
theorem dX11_year_96 : decode cX11_year 96 = .ok (.getfield 223, 3) := by decide +kernel
theorem dX11_year_99 : decode cX11_year 99 = .ok (.ireturn, 1) := by decide +kernel
theorem dX11_year_100 : decode cX11_year 100 = .ok (.aload_n 0, 1) := by decide +kernel
theorem dX11_year_101 : decode cX11_year 101 = .ok (.getfield 62, 3) := by decide +kernel
theorem dX11_year_104 : decode cX11_year 104 = .ok (.getfield 220, 3) := by decide +kernel
theorem dX11_year_107 : decode cX11_year 107 = .ok (.ireturn, 1) := by decide +kernel
theorem dX11_year_108 : decode cX11_year 108 = .ok (.aload_n 0, 1) := by decide +kernel
theorem dX11_year_109 : decode cX11_year 109 = .ok (.getfield 62, 3) := by decide +kernel
theorem dX11_year_112 : decode cX11_year 112 = .ok (.getfield 317, 3) := by decide +kernel
theorem dX11_year_115 : decode cX11_year 115 = .ok (.ireturn, 1) := by decide +kernel
theorem dX12_areMembersHere_0 : decode cX12_areMembersHere 0 = .ok (.aload_n 0, 1) := by decide +kernel
theorem dX12_areMembersHere_1 : decode cX12_areMembersHere 1 = .ok (.getfield 251, 3) := by decide +kernel
theorem dX12_areMembersHere_4 : decode cX12_areMembersHere 4 = .ok (.ifCond .le 10, 3) := by decide +kernel
theorem dX12_areMembersHere_7 : decode cX12_areMembersHere 7 = .ok (.aload_n 0, 1) := by decide +kernel
theorem dX12_areMembersHere_8 : decode cX12_areMembersHere 8 = .ok (.iconst 4, 1) := by decide +kernel
theorem dX12_areMembersHere_9 : decode cX12_areMembersHere 9 = .ok (.iload_n 1, 1) := by decide +kernel
theorem dX12_areMembersHere_10 : decode cX12_areMembersHere 10 = .ok (.invokevirtual 148, 3) := by decide +kernel
theorem dX12_areMembersHere_13 : decode cX12_areMembersHere 13 = .ok (.ireturn, 1) := by decide +kernel
theorem dX12_areMembersHere_14 : decode cX12_areMembersHere 14 = .ok (.aload_n 0, 1) := by decide +kernel
theorem dX12_areMembersHere_15 : decode cX12_areMembersHere 15 = .ok (.invokevirtual 142, 3) := by decide +kernel
theorem dX12_areMembersHere_18 : decode cX12_areMembersHere 18 = .ok (.aload_n 0, 1) := by decide +kernel
theorem dX12_areMembersHere_19 : decode cX12_areMembersHere 19 = .ok (.iconst 1, 1) := by decide +kernel
theorem dX12_areMembersHere_20 : decode cX12_areMembersHere 20 = .ok (.bipush 10, 2) := by decide +kernel
theorem dX12_areMembersHere_22 : decode cX12_areMembersHere 22 = .ok (.invokevirtual 200, 3) := by decide +kernel
theorem dX12_areMembersHere_25 : decode cX12_areMembersHere 25 = .ok (.ifCond .ne 5, 3) := by decide +kernel
theorem dX12_areMembersHere_28 : decode cX12_areMembersHere 28 = .ok (.iconst 0, 1) := by decide +kernel
theorem dX12_areMembersHere_29 : decode cX12_areMembersHere 29 = .ok (.ireturn, 1) := by decide +kernel
theorem dX12_areMembersHere_30 : decode cX12_areMembersHere 30 = .ok (.aload_n 0, 1) := by decide +kernel
theorem dX12_areMembersHere_31 : decode cX12_areMembersHere 31 = .ok (.aload_n 0, 1) := by decide +kernel
theorem dX12_areMembersHere_32 : decode cX12_areMembersHere 32 = .ok (.getfield 152, 3) := by decide +kernel
theorem dX12_areMembersHere_35 : decode cX12_areMembersHere 35 = .ok (.putfield 251, 3) := by decide +kernel
theorem dX12_areMembersHere_38 : decode cX12_areMembersHere 38 = .ok (.iconst 1, 1) := by decide +kernel
theorem dX12_areMembersHere_39 : decode cX12_areMembersHere 39 = .ok (.ireturn, 1) := by decide +kernel
theorem dX12_areVoicesHere_0 : decode cX12_areVoicesHere 0 = .ok (.aload_n 0, 1) := by decide +kernel
theorem dX12_areVoicesHere_1 : decode cX12_areVoicesHere 1 = .ok (.getfield 260, 3) := by decide +kernel
theorem dX12_areVoicesHere_4 : decode cX12_areVoicesHere 4 = .ok (.ifCond .eq 10, 3) := by decide +kernel
theorem dX12_areVoicesHere_7 : decode cX12_areVoicesHere 7 = .ok (.aload_n 0, 1) := by decide +kernel
theorem dX12_areVoicesHere_8 : decode cX12_areVoicesHere 8 = .ok (.iconst 4, 1) := by decide +kernel
theorem dX12_areVoicesHere_9 : decode cX12_areVoicesHere 9 = .ok (.iload_n 1, 1) := by decide +kernel
theorem dX12_areVoicesHere_10 : decode cX12_areVoicesHere 10 = .ok (.invokevirtual 148, 3) := by decide +kernel
theorem dX12_areVoicesHere_13 : decode cX12_areVoicesHere 13 = .ok (.ireturn, 1) := by decide +kernel
theorem dX12_areVoicesHere_14 : decode cX12_areVoicesHere 14 = .ok (.aload_n 0, 1) := by decide +kernel
theorem dX12_areVoicesHere_15 : decode cX12_areVoicesHere 15 = .ok (.invokevirtual 142, 3) := by decide +kernel
theorem dX12_areVoicesHere_18 : decode cX12_areVoicesHere 18 = .ok (.iconst 0, 1) := by decide +kernel
theorem dX12_areVoicesHere_19 : decode cX12_areVoicesHere 19 = .ok (.istore_n 2, 1) := by decide +kernel
theorem dX12_areVoicesHere_20 : decode cX12_areVoicesHere 20 = .ok (.iload_n 2, 1) := by decide +kernel
theorem dX12_areVoicesHere_21 : decode cX12_areVoicesHere 21 = .ok (.aload_n 0, 1) := by decide +kernel
theorem dX12_areVoicesHere_22 : decode cX12_areVoicesHere 22 = .ok (.getfield 251, 3) := by decide +kernel
theorem dX12_areVoicesHere_25 : decode cX12_areVoicesHere 25 = .ok (.if_icmp .ge 32, 3) := by decide +kernel
theorem dX12_areVoicesHere_28 : decode cX12_areVoicesHere 28 = .ok (.aload_n 0, 1) := by decide +kernel
theorem dX12_areVoicesHere_29 : decode cX12_areVoicesHere 29 = .ok (.iconst 1, 1) := by decide +kernel
theorem dX12_areVoicesHere_30 : decode cX12_areVoicesHere 30 = .ok (.sipush 999, 3) := by decide +kernel
theorem dX12_areVoicesHere_33 : decode cX12_areVoicesHere 33 = .ok (.invokevirtual 200, 3) := by decide +kernel
theorem dX12_areVoicesHere_36 : decode cX12_areVoicesHere 36 = .ok (.ifCond .ne 5, 3) := by decide +kernel
theorem dX12_areVoicesHere_39 : decode cX12_areVoicesHere 39 = .ok (.iconst 0, 1) := by decide +kernel
theorem dX12_areVoicesHere_40 : decode cX12_areVoicesHere 40 = .ok (.ireturn, 1) := by decide +kernel
theorem dX12_areVoicesHere_41 : decode cX12_areVoicesHere 41 = .ok (.aload_n 0, 1) := by decide +kernel
theorem dX12_areVoicesHere_42 : decode cX12_areVoicesHere 42 = .ok (.getfield 29, 3) := by decide +kernel
theorem dX12_areVoicesHere_45 : decode cX12_areVoicesHere 45 = .ok (.iload_n 2, 1) := by decide +kernel
theorem dX12_areVoicesHere_46 : decode cX12_areVoicesHere 46 = .ok (.aload_n 0, 1) := by decide +kernel
theorem dX12_areVoicesHere_47 : decode cX12_areVoicesHere 47 = .ok (.getfield 152, 3) := by decide +kernel
theorem dX12_areVoicesHere_50 : decode cX12_areVoicesHere 50 = .ok (.iastore, 1) := by decide +kernel
theorem dX12_areVoicesHere_51 : decode cX12_areVoicesHere 51 = .ok (.iinc 2 1, 3) := by decide +kernel
theorem dX12_areVoicesHere_54 : decode cX12_areVoicesHere 54 = .ok (.goto (-34), 3) := by decide +kernel
theorem dX12_areVoicesHere_57 : decode cX12_areVoicesHere 57 = .ok (.aload_n 0, 1) := by decide +kernel
theorem dX12_areVoicesHere_58 : decode cX12_areVoicesHere 58 = .ok (.iconst 1, 1) := by decide +kernel
theorem dX12_areVoicesHere_59 : decode cX12_areVoicesHere 59 = .ok (.putfield 260, 3) := by decide +kernel
theorem dX12_areVoicesHere_62 : decode cX12_areVoicesHere 62 = .ok (.iconst 1, 1) := by decide +kernel
theorem dX12_areVoicesHere_63 : decode cX12_areVoicesHere 63 = .ok (.ireturn, 1) := by decide +kernel
theorem dX12_asks_0 : decode cX12_asks 0 = .ok (.aload_n 0, 1) := by decide +kernel
theorem dX12_asks_1 : decode cX12_asks 1 = .ok (.iconst 0, 1) := by decide +kernel
theorem dX12_asks_2 : decode cX12_asks 2 = .ok (.putfield 364, 3) := by decide +kernel
theorem dX12_asks_5 : decode cX12_asks 5 = .ok (.aload_n 0, 1) := by decide +kernel
theorem dX12_asks_6 : decode cX12_asks 6 = .ok (.iconst 0, 1) := by decide +kernel
theorem dX12_asks_7 : decode cX12_asks 7 = .ok (.putfield 367, 3) := by decide +kernel
theorem dX12_asks_10 : decode cX12_asks 10 = .ok (.aload_n 0, 1) := by decide +kernel
theorem dX12_asks_11 : decode cX12_asks 11 = .ok (.iload_n 1, 1) := by decide +kernel
theorem dX12_asks_12 : decode cX12_asks 12 = .ok (.iload_n 2, 1) := by decide +kernel
theorem dX12_asks_13 : decode cX12_asks 13 = .ok (.invokevirtual 370, 3) := by decide +kernel
theorem dX12_asks_16 : decode cX12_asks 16 = .ok (.iconst 0, 1) := by decide +kernel
theorem dX12_asks_17 : decode cX12_asks 17 = .ok (.istore_n 3, 1) := by decide +kernel
theorem dX12_asks_18 : decode cX12_asks 18 = .ok (.iload_n 3, 1) := by decide +kernel
theorem dX12_asks_19 : decode cX12_asks 19 = .ok (.aload_n 0, 1) := by decide +kernel
theorem dX12_asks_20 : decode cX12_asks 20 = .ok (.getfield 45, 3) := by decide +kernel
theorem dX12_asks_23 : decode cX12_asks 23 = .ok (.iconst 0, 1) := by decide +kernel
theorem dX12_asks_24 : decode cX12_asks 24 = .ok (.iaload, 1) := by decide +kernel
theorem dX12_asks_25 : decode cX12_asks 25 = .ok (.if_icmp .ge 34, 3) := by decide +kernel
theorem dX12_asks_28 : decode cX12_asks 28 = .ok (.aload_n 0, 1) := by decide +kernel
theorem dX12_asks_29 : decode cX12_asks 29 = .ok (.getfield 45, 3) := by decide +kernel
theorem dX12_asks_32 : decode cX12_asks 32 = .ok (.iconst 2, 1) := by decide +kernel
theorem dX12_asks_33 : decode cX12_asks 33 = .ok (.iaload, 1) := by decide +kernel
theorem dX12_asks_34 : decode cX12_asks 34 = .ok (.iload_n 3, 1) := by decide +kernel
theorem dX12_asks_35 : decode cX12_asks 35 = .ok (.invokestatic 322, 3) := by decide +kernel
theorem dX12_asks_38 : decode cX12_asks 38 = .ok (.ifCond .eq 15, 3) := by decide +kernel
theorem dX12_asks_41 : decode cX12_asks 41 = .ok (.aload_n 0, 1) := by decide +kernel
theorem dX12_asks_42 : decode cX12_asks 42 = .ok (.iload_n 3, 1) := by decide +kernel
theorem dX12_asks_43 : decode cX12_asks 43 = .ok (.aload_n 0, 1) := by decide +kernel
theorem dX12_asks_44 : decode cX12_asks 44 = .ok (.iload_n 3, 1) := by decide +kernel
theorem dX12_asks_45 : decode cX12_asks 45 = .ok (.iload_n 1, 1) := by decide +kernel
theorem dX12_asks_46 : decode cX12_asks 46 = .ok (.iload_n 2, 1) := by decide +kernel
theorem dX12_asks_47 : decode cX12_asks 47 = .ok (.invokevirtual 373, 3) := by decide +kernel
theorem dX12_asks_50 : decode cX12_asks 50 = .ok (.invokevirtual 377, 3) := by decide +kernel
theorem dX12_asks_53 : decode cX12_asks 53 = .ok (.iinc 3 1, 3) := by decide +kernel
theorem dX12_asks_56 : decode cX12_asks 56 = .ok (.goto (-38), 3) := by decide +kernel
theorem dX12_asks_59 : decode cX12_asks 59 = .ok (.return_, 1) := by decide +kernel
theorem dX12_attends_0 : decode cX12_attends 0 = .ok (.aload_n 0, 1) := by decide +kernel
theorem dX12_attends_1 : decode cX12_attends 1 = .ok (.iload_n 1, 1) := by decide +kernel
theorem dX12_attends_2 : decode cX12_attends 2 = .ok (.invokevirtual 319, 3) := by decide +kernel
theorem dX12_attends_5 : decode cX12_attends 5 = .ok (.ifCond .eq 17, 3) := by decide +kernel
theorem dX12_attends_8 : decode cX12_attends 8 = .ok (.aload_n 0, 1) := by decide +kernel
theorem dX12_attends_9 : decode cX12_attends 9 = .ok (.getfield 45, 3) := by decide +kernel
theorem dX12_attends_12 : decode cX12_attends 12 = .ok (.iconst 2, 1) := by decide +kernel
theorem dX12_attends_13 : decode cX12_attends 13 = .ok (.iaload, 1) := by decide +kernel
theorem dX12_attends_14 : decode cX12_attends 14 = .ok (.iload_n 1, 1) := by decide +kernel
theorem dX12_attends_15 : decode cX12_attends 15 = .ok (.invokestatic 322, 3) := by decide +kernel
theorem dX12_attends_18 : decode cX12_attends 18 = .ok (.iload_n 2, 1) := by decide +kernel
theorem dX12_attends_19 : decode cX12_attends 19 = .ok (.if_icmp .ne 9, 3) := by decide +kernel
theorem dX12_attends_22 : decode cX12_attends 22 = .ok (.aload_n 0, 1) := by decide +kernel
theorem dX12_attends_23 : decode cX12_attends 23 = .ok (.iconst 0, 1) := by decide +kernel
theorem dX12_attends_24 : decode cX12_attends 24 = .ok (.invokevirtual 338, 3) := by decide +kernel
theorem dX12_attends_27 : decode cX12_attends 27 = .ok (.ireturn, 1) := by decide +kernel
theorem dX12_attends_28 : decode cX12_attends 28 = .ok (.aload_n 0, 1) := by decide +kernel
theorem dX12_attends_29 : decode cX12_attends 29 = .ok (.getfield 45, 3) := by decide +kernel
theorem dX12_attends_32 : decode cX12_attends 32 = .ok (.iconst 2, 1) := by decide +kernel
theorem dX12_attends_33 : decode cX12_attends 33 = .ok (.dup2, 1) := by decide +kernel
theorem dX12_attends_34 : decode cX12_attends 34 = .ok (.iaload, 1) := by decide +kernel
theorem dX12_attends_35 : decode cX12_attends 35 = .ok (.iconst 1, 1) := by decide +kernel
theorem dX12_attends_36 : decode cX12_attends 36 = .ok (.iload_n 1, 1) := by decide +kernel
theorem dX12_attends_37 : decode cX12_attends 37 = .ok (.ishl, 1) := by decide +kernel
theorem dX12_attends_38 : decode cX12_attends 38 = .ok (.ixor, 1) := by decide +kernel
theorem dX12_attends_39 : decode cX12_attends 39 = .ok (.iastore, 1) := by decide +kernel
theorem dX12_attends_40 : decode cX12_attends 40 = .ok (.aload_n 0, 1) := by decide +kernel
theorem dX12_attends_41 : decode cX12_attends 41 = .ok (.getfield 45, 3) := by decide +kernel
theorem dX12_attends_44 : decode cX12_attends 44 = .ok (.bipush 10, 2) := by decide +kernel
theorem dX12_attends_46 : decode cX12_attends 46 = .ok (.iload_n 1, 1) := by decide +kernel
theorem dX12_attends_47 : decode cX12_attends 47 = .ok (.iadd, 1) := by decide +kernel
theorem dX12_attends_48 : decode cX12_attends 48 = .ok (.iconst 1, 1) := by decide +kernel
theorem dX12_attends_49 : decode cX12_attends 49 = .ok (.iastore, 1) := by decide +kernel
theorem dX12_attends_50 : decode cX12_attends 50 = .ok (.aload_n 0, 1) := by decide +kernel
theorem dX12_attends_51 : decode cX12_attends 51 = .ok (.getfield 45, 3) := by decide +kernel
theorem dX12_attends_54 : decode cX12_attends 54 = .ok (.iconst 2, 1) := by decide +kernel
theorem dX12_attends_55 : decode cX12_attends 55 = .ok (.iaload, 1) := by decide +kernel
theorem dX12_attends_56 : decode cX12_attends 56 = .ok (.invokestatic 341, 3) := by decide +kernel
theorem dX12_attends_59 : decode cX12_attends 59 = .ok (.ireturn, 1) := by decide +kernel
theorem dX12_back_0 : decode cX12_back 0 = .ok (.iload_n 1, 1) := by decide +kernel
theorem dX12_back_1 : decode cX12_back 1 = .ok (.i2l, 1) := by decide +kernel
theorem dX12_back_2 : decode cX12_back 2 = .ok (.lconst 0, 1) := by decide +kernel
theorem dX12_back_3 : decode cX12_back 3 = .ok (.ldc2_w 426, 3) := by decide +kernel
theorem dX12_back_6 : decode cX12_back 6 = .ok (.invokestatic 155, 3) := by decide +kernel
theorem dX12_back_9 : decode cX12_back 9 = .ok (.ifCond .eq 12, 3) := by decide +kernel
theorem dX12_back_12 : decode cX12_back 12 = .ok (.aload_n 0, 1) := by decide +kernel
theorem dX12_back_13 : decode cX12_back 13 = .ok (.getfield 112, 3) := by decide +kernel
theorem dX12_back_16 : decode cX12_back 16 = .ok (.iload_n 1, 1) := by decide +kernel
theorem dX12_back_17 : decode cX12_back 17 = .ok (.baload, 1) := by decide +kernel
theorem dX12_back_18 : decode cX12_back 18 = .ok (.ifCond .ne 9, 3) := by decide +kernel
theorem dX12_back_21 : decode cX12_back 21 = .ok (.aload_n 0, 1) := by decide +kernel
theorem dX12_back_22 : decode cX12_back 22 = .ok (.iconst 0, 1) := by decide +kernel
theorem dX12_back_23 : decode cX12_back 23 = .ok (.invokevirtual 338, 3) := by decide +kernel
theorem dX12_back_26 : decode cX12_back 26 = .ok (.ireturn, 1) := by decide +kernel
theorem dX12_back_27 : decode cX12_back 27 = .ok (.iconst 0, 1) := by decide +kernel
theorem dX12_back_28 : decode cX12_back 28 = .ok (.istore_n 2, 1) := by decide +kernel
theorem dX12_back_29 : decode cX12_back 29 = .ok (.iload_n 2, 1) := by decide +kernel
theorem dX12_back_30 : decode cX12_back 30 = .ok (.sipush 226, 3) := by decide +kernel
theorem dX12_back_33 : decode cX12_back 33 = .ok (.if_icmp .ge 27, 3) := by decide +kernel
theorem dX12_back_36 : decode cX12_back 36 = .ok (.aload_n 0, 1) := by decide +kernel
theorem dX12_back_37 : decode cX12_back 37 = .ok (.getfield 45, 3) := by decide +kernel
theorem dX12_back_40 : decode cX12_back 40 = .ok (.iload_n 2, 1) := by decide +kernel
theorem dX12_back_41 : decode cX12_back 41 = .ok (.aload_n 0, 1) := by decide +kernel
theorem dX12_back_42 : decode cX12_back 42 = .ok (.getfield 109, 3) := by decide +kernel
theorem dX12_back_45 : decode cX12_back 45 = .ok (.sipush 226, 3) := by decide +kernel
theorem dX12_back_48 : decode cX12_back 48 = .ok (.iload_n 1, 1) := by decide +kernel
theorem dX12_back_49 : decode cX12_back 49 = .ok (.imul, 1) := by decide +kernel
theorem dX12_back_50 : decode cX12_back 50 = .ok (.iload_n 2, 1) := by decide +kernel
theorem dX12_back_51 : decode cX12_back 51 = .ok (.iadd, 1) := by decide +kernel
theorem dX12_back_52 : decode cX12_back 52 = .ok (.iaload, 1) := by decide +kernel
theorem dX12_back_53 : decode cX12_back 53 = .ok (.iastore, 1) := by decide +kernel
theorem dX12_back_54 : decode cX12_back 54 = .ok (.iinc 2 1, 3) := by decide +kernel
theorem dX12_back_57 : decode cX12_back 57 = .ok (.goto (-28), 3) := by decide +kernel
theorem dX12_back_60 : decode cX12_back 60 = .ok (.aload_n 0, 1) := by decide +kernel
theorem dX12_back_61 : decode cX12_back 61 = .ok (.getfield 45, 3) := by decide +kernel
theorem dX12_back_64 : decode cX12_back 64 = .ok (.iconst 3, 1) := by decide +kernel
theorem dX12_back_65 : decode cX12_back 65 = .ok (.iaload, 1) := by decide +kernel
theorem dX12_back_66 : decode cX12_back 66 = .ok (.ireturn, 1) := by decide +kernel
theorem dX12_begins_0 : decode cX12_begins 0 = .ok (.iconst 0, 1) := by decide +kernel
theorem dX12_begins_1 : decode cX12_begins 1 = .ok (.istore_n 1, 1) := by decide +kernel
theorem dX12_begins_2 : decode cX12_begins 2 = .ok (.iload_n 1, 1) := by decide +kernel
theorem dX12_begins_3 : decode cX12_begins 3 = .ok (.bipush 10, 2) := by decide +kernel
theorem dX12_begins_5 : decode cX12_begins 5 = .ok (.if_icmp .ge 38, 3) := by decide +kernel
theorem dX12_begins_8 : decode cX12_begins 8 = .ok (.aload_n 0, 1) := by decide +kernel
theorem dX12_begins_9 : decode cX12_begins 9 = .ok (.getfield 51, 3) := by decide +kernel
theorem dX12_begins_12 : decode cX12_begins 12 = .ok (.iload_n 1, 1) := by decide +kernel
theorem dX12_begins_13 : decode cX12_begins 13 = .ok (.aload_n 0, 1) := by decide +kernel
theorem dX12_begins_14 : decode cX12_begins 14 = .ok (.getfield 45, 3) := by decide +kernel
theorem dX12_begins_17 : decode cX12_begins 17 = .ok (.bipush 10, 2) := by decide +kernel
theorem dX12_begins_19 : decode cX12_begins 19 = .ok (.iload_n 1, 1) := by decide +kernel
theorem dX12_begins_20 : decode cX12_begins 20 = .ok (.iadd, 1) := by decide +kernel
theorem dX12_begins_21 : decode cX12_begins 21 = .ok (.iaload, 1) := by decide +kernel
theorem dX12_begins_22 : decode cX12_begins 22 = .ok (.iastore, 1) := by decide +kernel
theorem dX12_begins_23 : decode cX12_begins 23 = .ok (.aload_n 0, 1) := by decide +kernel
theorem dX12_begins_24 : decode cX12_begins 24 = .ok (.getfield 57, 3) := by decide +kernel
theorem dX12_begins_27 : decode cX12_begins 27 = .ok (.iload_n 1, 1) := by decide +kernel
theorem dX12_begins_28 : decode cX12_begins 28 = .ok (.iconst 0, 1) := by decide +kernel
theorem dX12_begins_29 : decode cX12_begins 29 = .ok (.iastore, 1) := by decide +kernel
theorem dX12_begins_30 : decode cX12_begins 30 = .ok (.aload_n 0, 1) := by decide +kernel
theorem dX12_begins_31 : decode cX12_begins 31 = .ok (.getfield 60, 3) := by decide +kernel
theorem dX12_begins_34 : decode cX12_begins 34 = .ok (.iload_n 1, 1) := by decide +kernel
theorem dX12_begins_35 : decode cX12_begins 35 = .ok (.iconst 0, 1) := by decide +kernel
theorem dX12_begins_36 : decode cX12_begins 36 = .ok (.iastore, 1) := by decide +kernel
theorem dX12_begins_37 : decode cX12_begins 37 = .ok (.iinc 1 1, 3) := by decide +kernel
theorem dX12_begins_40 : decode cX12_begins 40 = .ok (.goto (-38), 3) := by decide +kernel
theorem dX12_begins_43 : decode cX12_begins 43 = .ok (.aload_n 0, 1) := by decide +kernel
theorem dX12_begins_44 : decode cX12_begins 44 = .ok (.aload_n 0, 1) := by decide +kernel
theorem dX12_begins_45 : decode cX12_begins 45 = .ok (.getfield 45, 3) := by decide +kernel
theorem dX12_begins_48 : decode cX12_begins 48 = .ok (.iconst 3, 1) := by decide +kernel
theorem dX12_begins_49 : decode cX12_begins 49 = .ok (.iaload, 1) := by decide +kernel
theorem dX12_begins_50 : decode cX12_begins 50 = .ok (.putfield 348, 3) := by decide +kernel
theorem dX12_begins_53 : decode cX12_begins 53 = .ok (.aload_n 0, 1) := by decide +kernel
theorem dX12_begins_54 : decode cX12_begins 54 = .ok (.aload_n 0, 1) := by decide +kernel
theorem dX12_begins_55 : decode cX12_begins 55 = .ok (.getfield 45, 3) := by decide +kernel
theorem dX12_begins_58 : decode cX12_begins 58 = .ok (.iconst 4, 1) := by decide +kernel
theorem dX12_begins_59 : decode cX12_begins 59 = .ok (.iaload, 1) := by decide +kernel
theorem dX12_begins_60 : decode cX12_begins 60 = .ok (.putfield 351, 3) := by decide +kernel
theorem dX12_begins_63 : decode cX12_begins 63 = .ok (.iconst 0, 1) := by decide +kernel
theorem dX12_begins_64 : decode cX12_begins 64 = .ok (.istore_n 1, 1) := by decide +kernel
theorem dX12_begins_65 : decode cX12_begins 65 = .ok (.iload_n 1, 1) := by decide +kernel
theorem dX12_begins_66 : decode cX12_begins 66 = .ok (.aload_n 0, 1) := by decide +kernel
theorem dX12_begins_67 : decode cX12_begins 67 = .ok (.getfield 351, 3) := by decide +kernel
theorem dX12_begins_70 : decode cX12_begins 70 = .ok (.if_icmp .ge 25, 3) := by decide +kernel
theorem dX12_begins_73 : decode cX12_begins 73 = .ok (.aload_n 0, 1) := by decide +kernel
theorem dX12_begins_74 : decode cX12_begins 74 = .ok (.getfield 54, 3) := by decide +kernel
theorem dX12_begins_77 : decode cX12_begins 77 = .ok (.iload_n 1, 1) := by decide +kernel
theorem dX12_begins_78 : decode cX12_begins 78 = .ok (.aload_n 0, 1) := by decide +kernel
theorem dX12_begins_79 : decode cX12_begins 79 = .ok (.getfield 45, 3) := by decide +kernel
theorem dX12_begins_82 : decode cX12_begins 82 = .ok (.sipush 170, 3) := by decide +kernel
theorem dX12_begins_85 : decode cX12_begins 85 = .ok (.iload_n 1, 1) := by decide +kernel
theorem dX12_begins_86 : decode cX12_begins 86 = .ok (.iadd, 1) := by decide +kernel
theorem dX12_begins_87 : decode cX12_begins 87 = .ok (.iaload, 1) := by decide +kernel
theorem dX12_begins_88 : decode cX12_begins 88 = .ok (.iastore, 1) := by decide +kernel
theorem dX12_begins_89 : decode cX12_begins 89 = .ok (.iinc 1 1, 3) := by decide +kernel
theorem dX12_begins_92 : decode cX12_begins 92 = .ok (.goto (-27), 3) := by decide +kernel
theorem dX12_begins_95 : decode cX12_begins 95 = .ok (.return_, 1) := by decide +kernel
theorem dX12_bench_0 : decode cX12_bench 0 = .ok (.aload_n 0, 1) := by decide +kernel
theorem dX12_bench_1 : decode cX12_bench 1 = .ok (.getfield 45, 3) := by decide +kernel
theorem dX12_bench_4 : decode cX12_bench 4 = .ok (.iconst 0, 1) := by decide +kernel
theorem dX12_bench_5 : decode cX12_bench 5 = .ok (.iaload, 1) := by decide +kernel
theorem dX12_bench_6 : decode cX12_bench 6 = .ok (.ifCond .eq 25, 3) := by decide +kernel
theorem dX12_bench_9 : decode cX12_bench 9 = .ok (.aload_n 0, 1) := by decide +kernel
theorem dX12_bench_10 : decode cX12_bench 10 = .ok (.iload_n 1, 1) := by decide +kernel
theorem dX12_bench_11 : decode cX12_bench 11 = .ok (.invokevirtual 404, 3) := by decide +kernel
theorem dX12_bench_14 : decode cX12_bench 14 = .ok (.ifCond .eq 17, 3) := by decide +kernel
theorem dX12_bench_17 : decode cX12_bench 17 = .ok (.aload_n 0, 1) := by decide +kernel
theorem dX12_bench_18 : decode cX12_bench 18 = .ok (.iload_n 2, 1) := by decide +kernel
theorem dX12_bench_19 : decode cX12_bench 19 = .ok (.invokevirtual 404, 3) := by decide +kernel
theorem dX12_bench_22 : decode cX12_bench 22 = .ok (.ifCond .eq 9, 3) := by decide +kernel
theorem dX12_bench_25 : decode cX12_bench 25 = .ok (.iload_n 1, 1) := by decide +kernel
theorem dX12_bench_26 : decode cX12_bench 26 = .ok (.iload_n 2, 1) := by decide +kernel
theorem dX12_bench_27 : decode cX12_bench 27 = .ok (.iand, 1) := by decide +kernel
theorem dX12_bench_28 : decode cX12_bench 28 = .ok (.ifCond .eq 9, 3) := by decide +kernel
theorem dX12_bench_31 : decode cX12_bench 31 = .ok (.aload_n 0, 1) := by decide +kernel
theorem dX12_bench_32 : decode cX12_bench 32 = .ok (.iconst 0, 1) := by decide +kernel
theorem dX12_bench_33 : decode cX12_bench 33 = .ok (.invokevirtual 338, 3) := by decide +kernel
theorem dX12_bench_36 : decode cX12_bench 36 = .ok (.ireturn, 1) := by decide +kernel
theorem dX12_bench_37 : decode cX12_bench 37 = .ok (.aload_n 0, 1) := by decide +kernel
theorem dX12_bench_38 : decode cX12_bench 38 = .ok (.invokevirtual 393, 3) := by decide +kernel
theorem dX12_bench_41 : decode cX12_bench 41 = .ok (.aload_n 0, 1) := by decide +kernel
theorem dX12_bench_42 : decode cX12_bench 42 = .ok (.iload_n 1, 1) := by decide +kernel
theorem dX12_bench_43 : decode cX12_bench 43 = .ok (.aload_n 0, 1) := by decide +kernel
theorem dX12_bench_44 : decode cX12_bench 44 = .ok (.getfield 45, 3) := by decide +kernel
theorem dX12_bench_47 : decode cX12_bench 47 = .ok (.iconst 2, 1) := by decide +kernel
theorem dX12_bench_48 : decode cX12_bench 48 = .ok (.iaload, 1) := by decide +kernel
theorem dX12_bench_49 : decode cX12_bench 49 = .ok (.iand, 1) := by decide +kernel
theorem dX12_bench_50 : decode cX12_bench 50 = .ok (.putfield 364, 3) := by decide +kernel
theorem dX12_bench_53 : decode cX12_bench 53 = .ok (.aload_n 0, 1) := by decide +kernel
theorem dX12_bench_54 : decode cX12_bench 54 = .ok (.iload_n 2, 1) := by decide +kernel
theorem dX12_bench_55 : decode cX12_bench 55 = .ok (.aload_n 0, 1) := by decide +kernel
theorem dX12_bench_56 : decode cX12_bench 56 = .ok (.getfield 45, 3) := by decide +kernel
theorem dX12_bench_59 : decode cX12_bench 59 = .ok (.iconst 2, 1) := by decide +kernel
theorem dX12_bench_60 : decode cX12_bench 60 = .ok (.iaload, 1) := by decide +kernel
theorem dX12_bench_61 : decode cX12_bench 61 = .ok (.iand, 1) := by decide +kernel
theorem dX12_bench_62 : decode cX12_bench 62 = .ok (.putfield 367, 3) := by decide +kernel
theorem dX12_bench_65 : decode cX12_bench 65 = .ok (.aload_n 0, 1) := by decide +kernel
theorem dX12_bench_66 : decode cX12_bench 66 = .ok (.invokevirtual 399, 3) := by decide +kernel
theorem dX12_bench_69 : decode cX12_bench 69 = .ok (.istore_n 3, 1) := by decide +kernel
theorem dX12_bench_70 : decode cX12_bench 70 = .ok (.aload_n 0, 1) := by decide +kernel
theorem dX12_bench_71 : decode cX12_bench 71 = .ok (.invokevirtual 401, 3) := by decide +kernel
theorem dX12_bench_74 : decode cX12_bench 74 = .ok (.iload_n 3, 1) := by decide +kernel
theorem dX12_bench_75 : decode cX12_bench 75 = .ok (.ireturn, 1) := by decide +kernel
theorem dX12_bend_0 : decode cX12_bend 0 = .ok (.aload_n 0, 1) := by decide +kernel
theorem dX12_bend_1 : decode cX12_bend 1 = .ok (.iload_n 1, 1) := by decide +kernel
theorem dX12_bend_2 : decode cX12_bend 2 = .ok (.invokevirtual 319, 3) := by decide +kernel
theorem dX12_bend_5 : decode cX12_bend 5 = .ok (.ifCond .eq 17, 3) := by decide +kernel
theorem dX12_bend_8 : decode cX12_bend 8 = .ok (.iload_n 2, 1) := by decide +kernel
theorem dX12_bend_9 : decode cX12_bend 9 = .ok (.i2l, 1) := by decide +kernel
theorem dX12_bend_10 : decode cX12_bend 10 = .ok (.ldc2_w 334, 3) := by decide +kernel
theorem dX12_bend_13 : decode cX12_bend 13 = .ok (.ldc2_w 336, 3) := by decide +kernel
theorem dX12_bend_16 : decode cX12_bend 16 = .ok (.invokestatic 155, 3) := by decide +kernel
theorem dX12_bend_19 : decode cX12_bend 19 = .ok (.ifCond .ne 9, 3) := by decide +kernel
theorem dX12_bend_22 : decode cX12_bend 22 = .ok (.aload_n 0, 1) := by decide +kernel
theorem dX12_bend_23 : decode cX12_bend 23 = .ok (.iconst 0, 1) := by decide +kernel
theorem dX12_bend_24 : decode cX12_bend 24 = .ok (.invokevirtual 338, 3) := by decide +kernel
theorem dX12_bend_27 : decode cX12_bend 27 = .ok (.ireturn, 1) := by decide +kernel
theorem dX12_bend_28 : decode cX12_bend 28 = .ok (.aload_n 0, 1) := by decide +kernel
theorem dX12_bend_29 : decode cX12_bend 29 = .ok (.getfield 45, 3) := by decide +kernel
theorem dX12_bend_32 : decode cX12_bend 32 = .ok (.bipush 20, 2) := by decide +kernel
theorem dX12_bend_34 : decode cX12_bend 34 = .ok (.iload_n 1, 1) := by decide +kernel
theorem dX12_bend_35 : decode cX12_bend 35 = .ok (.iadd, 1) := by decide +kernel
theorem dX12_bend_36 : decode cX12_bend 36 = .ok (.iaload, 1) := by decide +kernel
theorem dX12_bend_37 : decode cX12_bend 37 = .ok (.istore_n 3, 1) := by decide +kernel
theorem dX12_bend_38 : decode cX12_bend 38 = .ok (.aload_n 0, 1) := by decide +kernel
theorem dX12_bend_39 : decode cX12_bend 39 = .ok (.getfield 45, 3) := by decide +kernel
theorem dX12_bend_42 : decode cX12_bend 42 = .ok (.bipush 20, 2) := by decide +kernel
theorem dX12_bend_44 : decode cX12_bend 44 = .ok (.iload_n 1, 1) := by decide +kernel
theorem dX12_bend_45 : decode cX12_bend 45 = .ok (.iadd, 1) := by decide +kernel
theorem dX12_bend_46 : decode cX12_bend 46 = .ok (.iload_n 2, 1) := by decide +kernel
theorem dX12_bend_47 : decode cX12_bend 47 = .ok (.iastore, 1) := by decide +kernel
theorem dX12_bend_48 : decode cX12_bend 48 = .ok (.iload_n 3, 1) := by decide +kernel
theorem dX12_bend_49 : decode cX12_bend 49 = .ok (.ireturn, 1) := by decide +kernel
theorem dX12_beside_0 : decode cX12_beside 0 = .ok (.aload_n 0, 1) := by decide +kernel
theorem dX12_beside_1 : decode cX12_beside 1 = .ok (.getfield 45, 3) := by decide +kernel
theorem dX12_beside_4 : decode cX12_beside 4 = .ok (.iconst 0, 1) := by decide +kernel
theorem dX12_beside_5 : decode cX12_beside 5 = .ok (.iaload, 1) := by decide +kernel
theorem dX12_beside_6 : decode cX12_beside 6 = .ok (.ifCond .eq 27, 3) := by decide +kernel
theorem dX12_beside_9 : decode cX12_beside 9 = .ok (.iload_n 1, 1) := by decide +kernel
theorem dX12_beside_10 : decode cX12_beside 10 = .ok (.i2l, 1) := by decide +kernel
theorem dX12_beside_11 : decode cX12_beside 11 = .ok (.lconst 0, 1) := by decide +kernel
theorem dX12_beside_12 : decode cX12_beside 12 = .ok (.ldc2_w 344, 3) := by decide +kernel
theorem dX12_beside_15 : decode cX12_beside 15 = .ok (.invokestatic 155, 3) := by decide +kernel
theorem dX12_beside_18 : decode cX12_beside 18 = .ok (.ifCond .eq 15, 3) := by decide +kernel
theorem dX12_beside_21 : decode cX12_beside 21 = .ok (.iload_n 2, 1) := by decide +kernel
theorem dX12_beside_22 : decode cX12_beside 22 = .ok (.i2l, 1) := by decide +kernel
theorem dX12_beside_23 : decode cX12_beside 23 = .ok (.lconst 1, 1) := by decide +kernel
theorem dX12_beside_24 : decode cX12_beside 24 = .ok (.ldc2_w 346, 3) := by decide +kernel
theorem dX12_beside_27 : decode cX12_beside 27 = .ok (.invokestatic 155, 3) := by decide +kernel
theorem dX12_beside_30 : decode cX12_beside 30 = .ok (.ifCond .ne 9, 3) := by decide +kernel
theorem dX12_beside_33 : decode cX12_beside 33 = .ok (.aload_n 0, 1) := by decide +kernel
theorem dX12_beside_34 : decode cX12_beside 34 = .ok (.iconst 0, 1) := by decide +kernel
theorem dX12_beside_35 : decode cX12_beside 35 = .ok (.invokevirtual 338, 3) := by decide +kernel
theorem dX12_beside_38 : decode cX12_beside 38 = .ok (.ireturn, 1) := by decide +kernel
theorem dX12_beside_39 : decode cX12_beside 39 = .ok (.aload_n 0, 1) := by decide +kernel
theorem dX12_beside_40 : decode cX12_beside 40 = .ok (.getfield 45, 3) := by decide +kernel
theorem dX12_beside_43 : decode cX12_beside 43 = .ok (.bipush 7, 2) := by decide +kernel
theorem dX12_beside_45 : decode cX12_beside 45 = .ok (.iaload, 1) := by decide +kernel
theorem dX12_beside_46 : decode cX12_beside 46 = .ok (.istore_n 3, 1) := by decide +kernel
theorem dX12_beside_47 : decode cX12_beside 47 = .ok (.aload_n 0, 1) := by decide +kernel
theorem dX12_beside_48 : decode cX12_beside 48 = .ok (.getfield 45, 3) := by decide +kernel
theorem dX12_beside_51 : decode cX12_beside 51 = .ok (.bipush 7, 2) := by decide +kernel
theorem dX12_beside_53 : decode cX12_beside 53 = .ok (.iload_n 1, 1) := by decide +kernel
theorem dX12_beside_54 : decode cX12_beside 54 = .ok (.iastore, 1) := by decide +kernel
theorem dX12_beside_55 : decode cX12_beside 55 = .ok (.aload_n 0, 1) := by decide +kernel
theorem dX12_beside_56 : decode cX12_beside 56 = .ok (.getfield 45, 3) := by decide +kernel
theorem dX12_beside_59 : decode cX12_beside 59 = .ok (.bipush 8, 2) := by decide +kernel
theorem dX12_beside_61 : decode cX12_beside 61 = .ok (.iload_n 2, 1) := by decide +kernel
theorem dX12_beside_62 : decode cX12_beside 62 = .ok (.iastore, 1) := by decide +kernel
theorem dX12_beside_63 : decode cX12_beside 63 = .ok (.iload_n 3, 1) := by decide +kernel
theorem dX12_beside_64 : decode cX12_beside 64 = .ok (.ireturn, 1) := by decide +kernel
theorem dX12_best_0 : decode cX12_best 0 = .ok (.iconst 0, 1) := by decide +kernel
theorem dX12_best_1 : decode cX12_best 1 = .ok (.istore_n 3, 1) := by decide +kernel
theorem dX12_best_2 : decode cX12_best 2 = .ok (.iconst 0, 1) := by decide +kernel
theorem dX12_best_3 : decode cX12_best 3 = .ok (.istore 4, 2) := by decide +kernel
theorem dX12_best_5 : decode cX12_best 5 = .ok (.iconst 0, 1) := by decide +kernel
theorem dX12_best_6 : decode cX12_best 6 = .ok (.istore 5, 2) := by decide +kernel
theorem dX12_best_8 : decode cX12_best 8 = .ok (.iload 5, 2) := by decide +kernel
theorem dX12_best_10 : decode cX12_best 10 = .ok (.iconst 3, 1) := by decide +kernel
theorem dX12_best_11 : decode cX12_best 11 = .ok (.if_icmp .ge 108, 3) := by decide +kernel
theorem dX12_best_14 : decode cX12_best 14 = .ok (.aload_n 0, 1) := by decide +kernel
theorem dX12_best_15 : decode cX12_best 15 = .ok (.getfield 81, 3) := by decide +kernel
theorem dX12_best_18 : decode cX12_best 18 = .ok (.bipush 9, 2) := by decide +kernel
theorem dX12_best_20 : decode cX12_best 20 = .ok (.iload_n 1, 1) := by decide +kernel
theorem dX12_best_21 : decode cX12_best 21 = .ok (.imul, 1) := by decide +kernel
theorem dX12_best_22 : decode cX12_best 22 = .ok (.iconst 3, 1) := by decide +kernel
theorem dX12_best_23 : decode cX12_best 23 = .ok (.iload 5, 2) := by decide +kernel
theorem dX12_best_25 : decode cX12_best 25 = .ok (.imul, 1) := by decide +kernel
theorem dX12_best_26 : decode cX12_best 26 = .ok (.iadd, 1) := by decide +kernel
theorem dX12_best_27 : decode cX12_best 27 = .ok (.iaload, 1) := by decide +kernel
theorem dX12_best_28 : decode cX12_best 28 = .ok (.istore 6, 2) := by decide +kernel
theorem dX12_best_30 : decode cX12_best 30 = .ok (.iconst 1, 1) := by decide +kernel
theorem dX12_best_31 : decode cX12_best 31 = .ok (.istore 7, 2) := by decide +kernel
theorem dX12_best_33 : decode cX12_best 33 = .ok (.iload 7, 2) := by decide +kernel
theorem dX12_best_35 : decode cX12_best 35 = .ok (.iconst 3, 1) := by decide +kernel
theorem dX12_best_36 : decode cX12_best 36 = .ok (.if_icmp .ge 55, 3) := by decide +kernel
theorem dX12_best_39 : decode cX12_best 39 = .ok (.aload_n 0, 1) := by decide +kernel
theorem dX12_best_40 : decode cX12_best 40 = .ok (.getfield 81, 3) := by decide +kernel
theorem dX12_best_43 : decode cX12_best 43 = .ok (.bipush 9, 2) := by decide +kernel
theorem dX12_best_45 : decode cX12_best 45 = .ok (.iload_n 1, 1) := by decide +kernel
theorem dX12_best_46 : decode cX12_best 46 = .ok (.imul, 1) := by decide +kernel
theorem dX12_best_47 : decode cX12_best 47 = .ok (.iconst 3, 1) := by decide +kernel
theorem dX12_best_48 : decode cX12_best 48 = .ok (.iload 5, 2) := by decide +kernel
theorem dX12_best_50 : decode cX12_best 50 = .ok (.imul, 1) := by decide +kernel
theorem dX12_best_51 : decode cX12_best 51 = .ok (.iadd, 1) := by decide +kernel
theorem dX12_best_52 : decode cX12_best 52 = .ok (.iload 7, 2) := by decide +kernel
theorem dX12_best_54 : decode cX12_best 54 = .ok (.iadd, 1) := by decide +kernel
theorem dX12_best_55 : decode cX12_best 55 = .ok (.iaload, 1) := by decide +kernel
theorem dX12_best_56 : decode cX12_best 56 = .ok (.iload 6, 2) := by decide +kernel
theorem dX12_best_58 : decode cX12_best 58 = .ok (.if_icmp .ge 23, 3) := by decide +kernel
theorem dX12_best_61 : decode cX12_best 61 = .ok (.aload_n 0, 1) := by decide +kernel
theorem dX12_best_62 : decode cX12_best 62 = .ok (.getfield 81, 3) := by decide +kernel
theorem dX12_best_65 : decode cX12_best 65 = .ok (.bipush 9, 2) := by decide +kernel
theorem dX12_best_67 : decode cX12_best 67 = .ok (.iload_n 1, 1) := by decide +kernel
theorem dX12_best_68 : decode cX12_best 68 = .ok (.imul, 1) := by decide +kernel
theorem dX12_best_69 : decode cX12_best 69 = .ok (.iconst 3, 1) := by decide +kernel
theorem dX12_best_70 : decode cX12_best 70 = .ok (.iload 5, 2) := by decide +kernel
theorem dX12_best_72 : decode cX12_best 72 = .ok (.imul, 1) := by decide +kernel
theorem dX12_best_73 : decode cX12_best 73 = .ok (.iadd, 1) := by decide +kernel
theorem dX12_best_74 : decode cX12_best 74 = .ok (.iload 7, 2) := by decide +kernel
theorem dX12_best_76 : decode cX12_best 76 = .ok (.iadd, 1) := by decide +kernel
theorem dX12_best_77 : decode cX12_best 77 = .ok (.iaload, 1) := by decide +kernel
theorem dX12_best_78 : decode cX12_best 78 = .ok (.goto 5, 3) := by decide +kernel
theorem dX12_best_81 : decode cX12_best 81 = .ok (.iload 6, 2) := by decide +kernel
theorem dX12_best_83 : decode cX12_best 83 = .ok (.istore 6, 2) := by decide +kernel
theorem dX12_best_85 : decode cX12_best 85 = .ok (.iinc 7 1, 3) := by decide +kernel
theorem dX12_best_88 : decode cX12_best 88 = .ok (.goto (-55), 3) := by decide +kernel
theorem dX12_best_91 : decode cX12_best 91 = .ok (.iload 5, 2) := by decide +kernel
theorem dX12_best_93 : decode cX12_best 93 = .ok (.ifCond .le 13, 3) := by decide +kernel
theorem dX12_best_96 : decode cX12_best 96 = .ok (.iload 6, 2) := by decide +kernel
theorem dX12_best_98 : decode cX12_best 98 = .ok (.iload 4, 2) := by decide +kernel
theorem dX12_best_100 : decode cX12_best 100 = .ok (.if_icmp .gt 6, 3) := by decide +kernel
theorem dX12_best_103 : decode cX12_best 103 = .ok (.goto 10, 3) := by decide +kernel
theorem dX12_best_106 : decode cX12_best 106 = .ok (.iload 5, 2) := by decide +kernel
theorem dX12_best_108 : decode cX12_best 108 = .ok (.istore_n 3, 1) := by decide +kernel
theorem dX12_best_109 : decode cX12_best 109 = .ok (.iload 6, 2) := by decide +kernel
theorem dX12_best_111 : decode cX12_best 111 = .ok (.istore 4, 2) := by decide +kernel
theorem dX12_best_113 : decode cX12_best 113 = .ok (.iinc 5 1, 3) := by decide +kernel
theorem dX12_best_116 : decode cX12_best 116 = .ok (.goto (-108), 3) := by decide +kernel
theorem dX12_best_119 : decode cX12_best 119 = .ok (.iload_n 2, 1) := by decide +kernel
theorem dX12_best_120 : decode cX12_best 120 = .ok (.ifCond .eq 7, 3) := by decide +kernel
theorem dX12_best_123 : decode cX12_best 123 = .ok (.iload_n 3, 1) := by decide +kernel
theorem dX12_best_124 : decode cX12_best 124 = .ok (.goto 5, 3) := by decide +kernel
theorem dX12_best_127 : decode cX12_best 127 = .ok (.iload 4, 2) := by decide +kernel
theorem dX12_best_129 : decode cX12_best 129 = .ok (.ireturn, 1) := by decide +kernel
theorem dX12_bits_0 : decode cX12_bits 0 = .ok (.iconst 0, 1) := by decide +kernel
theorem dX12_bits_1 : decode cX12_bits 1 = .ok (.istore_n 1, 1) := by decide +kernel
theorem dX12_bits_2 : decode cX12_bits 2 = .ok (.iload_n 0, 1) := by decide +kernel
theorem dX12_bits_3 : decode cX12_bits 3 = .ok (.istore_n 2, 1) := by decide +kernel
theorem dX12_bits_4 : decode cX12_bits 4 = .ok (.iload_n 2, 1) := by decide +kernel
theorem dX12_bits_5 : decode cX12_bits 5 = .ok (.ifCond .eq 15, 3) := by decide +kernel
theorem dX12_bits_8 : decode cX12_bits 8 = .ok (.iinc 1 1, 3) := by decide +kernel
theorem dX12_bits_11 : decode cX12_bits 11 = .ok (.iload_n 2, 1) := by decide +kernel
theorem dX12_bits_12 : decode cX12_bits 12 = .ok (.iload_n 2, 1) := by decide +kernel
theorem dX12_bits_13 : decode cX12_bits 13 = .ok (.iconst 1, 1) := by decide +kernel
theorem dX12_bits_14 : decode cX12_bits 14 = .ok (.isub, 1) := by decide +kernel
theorem dX12_bits_15 : decode cX12_bits 15 = .ok (.iand, 1) := by decide +kernel
theorem dX12_bits_16 : decode cX12_bits 16 = .ok (.istore_n 2, 1) := by decide +kernel
theorem dX12_bits_17 : decode cX12_bits 17 = .ok (.goto (-13), 3) := by decide +kernel
theorem dX12_bits_20 : decode cX12_bits 20 = .ok (.iload_n 1, 1) := by decide +kernel
theorem dX12_bits_21 : decode cX12_bits 21 = .ok (.ireturn, 1) := by decide +kernel
theorem dX12_canFit_0 : decode cX12_canFit 0 = .ok (.aload_n 0, 1) := by decide +kernel
theorem dX12_canFit_1 : decode cX12_canFit 1 = .ok (.getfield 45, 3) := by decide +kernel
theorem dX12_canFit_4 : decode cX12_canFit 4 = .ok (.iconst 0, 1) := by decide +kernel
theorem dX12_canFit_5 : decode cX12_canFit 5 = .ok (.iaload, 1) := by decide +kernel
theorem dX12_canFit_6 : decode cX12_canFit 6 = .ok (.i2l, 1) := by decide +kernel
theorem dX12_canFit_7 : decode cX12_canFit 7 = .ok (.lconst 1, 1) := by decide +kernel
theorem dX12_canFit_8 : decode cX12_canFit 8 = .ok (.ldc2_w 336, 3) := by decide +kernel
theorem dX12_canFit_11 : decode cX12_canFit 11 = .ok (.invokestatic 155, 3) := by decide +kernel
theorem dX12_canFit_14 : decode cX12_canFit 14 = .ok (.ifCond .eq 19, 3) := by decide +kernel
theorem dX12_canFit_17 : decode cX12_canFit 17 = .ok (.iload_n 1, 1) := by decide +kernel
theorem dX12_canFit_18 : decode cX12_canFit 18 = .ok (.i2l, 1) := by decide +kernel
theorem dX12_canFit_19 : decode cX12_canFit 19 = .ok (.lconst 1, 1) := by decide +kernel
theorem dX12_canFit_20 : decode cX12_canFit 20 = .ok (.ldc2_w 470, 3) := by decide +kernel
theorem dX12_canFit_23 : decode cX12_canFit 23 = .ok (.invokestatic 155, 3) := by decide +kernel
theorem dX12_canFit_26 : decode cX12_canFit 26 = .ok (.ifCond .eq 7, 3) := by decide +kernel
theorem dX12_canFit_29 : decode cX12_canFit 29 = .ok (.iconst 1, 1) := by decide +kernel
theorem dX12_canFit_30 : decode cX12_canFit 30 = .ok (.goto 4, 3) := by decide +kernel
theorem dX12_canFit_33 : decode cX12_canFit 33 = .ok (.iconst 0, 1) := by decide +kernel
theorem dX12_canFit_34 : decode cX12_canFit 34 = .ok (.ireturn, 1) := by decide +kernel
theorem dX12_canLose_0 : decode cX12_canLose 0 = .ok (.aload_n 0, 1) := by decide +kernel
theorem dX12_canLose_1 : decode cX12_canLose 1 = .ok (.iload_n 1, 1) := by decide +kernel
theorem dX12_canLose_2 : decode cX12_canLose 2 = .ok (.invokevirtual 404, 3) := by decide +kernel
theorem dX12_canLose_5 : decode cX12_canLose 5 = .ok (.ifCond .eq 52, 3) := by decide +kernel
theorem dX12_canLose_8 : decode cX12_canLose 8 = .ok (.iload_n 1, 1) := by decide +kernel
theorem dX12_canLose_9 : decode cX12_canLose 9 = .ok (.invokestatic 341, 3) := by decide +kernel
theorem dX12_canLose_12 : decode cX12_canLose 12 = .ok (.i2l, 1) := by decide +kernel
theorem dX12_canLose_13 : decode cX12_canLose 13 = .ok (.lconst 1, 1) := by decide +kernel
theorem dX12_canLose_14 : decode cX12_canLose 14 = .ok (.ldc2_w 426, 3) := by decide +kernel
theorem dX12_canLose_17 : decode cX12_canLose 17 = .ok (.invokestatic 155, 3) := by decide +kernel
theorem dX12_canLose_20 : decode cX12_canLose 20 = .ok (.ifCond .eq 37, 3) := by decide +kernel
theorem dX12_canLose_23 : decode cX12_canLose 23 = .ok (.iload_n 1, 1) := by decide +kernel
theorem dX12_canLose_24 : decode cX12_canLose 24 = .ok (.aload_n 0, 1) := by decide +kernel
theorem dX12_canLose_25 : decode cX12_canLose 25 = .ok (.getfield 45, 3) := by decide +kernel
theorem dX12_canLose_28 : decode cX12_canLose 28 = .ok (.iconst 2, 1) := by decide +kernel
theorem dX12_canLose_29 : decode cX12_canLose 29 = .ok (.iaload, 1) := by decide +kernel
theorem dX12_canLose_30 : decode cX12_canLose 30 = .ok (.iconst (-1), 1) := by decide +kernel
theorem dX12_canLose_31 : decode cX12_canLose 31 = .ok (.ixor, 1) := by decide +kernel
theorem dX12_canLose_32 : decode cX12_canLose 32 = .ok (.iand, 1) := by decide +kernel
theorem dX12_canLose_33 : decode cX12_canLose 33 = .ok (.ifCond .ne 24, 3) := by decide +kernel
theorem dX12_canLose_36 : decode cX12_canLose 36 = .ok (.aload_n 0, 1) := by decide +kernel
theorem dX12_canLose_37 : decode cX12_canLose 37 = .ok (.getfield 45, 3) := by decide +kernel
theorem dX12_canLose_40 : decode cX12_canLose 40 = .ok (.iconst 4, 1) := by decide +kernel
theorem dX12_canLose_41 : decode cX12_canLose 41 = .ok (.iaload, 1) := by decide +kernel
theorem dX12_canLose_42 : decode cX12_canLose 42 = .ok (.i2l, 1) := by decide +kernel
theorem dX12_canLose_43 : decode cX12_canLose 43 = .ok (.lconst 1, 1) := by decide +kernel
theorem dX12_canLose_44 : decode cX12_canLose 44 = .ok (.ldc2_w 325, 3) := by decide +kernel
theorem dX12_canLose_47 : decode cX12_canLose 47 = .ok (.invokestatic 155, 3) := by decide +kernel
theorem dX12_canLose_50 : decode cX12_canLose 50 = .ok (.ifCond .eq 7, 3) := by decide +kernel
theorem dX12_canLose_53 : decode cX12_canLose 53 = .ok (.iconst 1, 1) := by decide +kernel
theorem dX12_canLose_54 : decode cX12_canLose 54 = .ok (.goto 4, 3) := by decide +kernel
theorem dX12_canLose_57 : decode cX12_canLose 57 = .ok (.iconst 0, 1) := by decide +kernel
theorem dX12_canLose_58 : decode cX12_canLose 58 = .ok (.ireturn, 1) := by decide +kernel
theorem dX12_chair_0 : decode cX12_chair 0 = .ok (.aload_n 0, 1) := by decide +kernel
theorem dX12_chair_1 : decode cX12_chair 1 = .ok (.getfield 45, 3) := by decide +kernel
theorem dX12_chair_4 : decode cX12_chair 4 = .ok (.iconst 4, 1) := by decide +kernel
theorem dX12_chair_5 : decode cX12_chair 5 = .ok (.iaload, 1) := by decide +kernel
theorem dX12_chair_6 : decode cX12_chair 6 = .ok (.istore 4, 2) := by decide +kernel
theorem dX12_chair_8 : decode cX12_chair 8 = .ok (.aload_n 0, 1) := by decide +kernel
theorem dX12_chair_9 : decode cX12_chair 9 = .ok (.iload_n 1, 1) := by decide +kernel
theorem dX12_chair_10 : decode cX12_chair 10 = .ok (.invokevirtual 319, 3) := by decide +kernel
theorem dX12_chair_13 : decode cX12_chair 13 = .ok (.ifCond .eq 28, 3) := by decide +kernel
theorem dX12_chair_16 : decode cX12_chair 16 = .ok (.iload 4, 2) := by decide +kernel
theorem dX12_chair_18 : decode cX12_chair 18 = .ok (.i2l, 1) := by decide +kernel
theorem dX12_chair_19 : decode cX12_chair 19 = .ok (.lconst 1, 1) := by decide +kernel
theorem dX12_chair_20 : decode cX12_chair 20 = .ok (.ldc2_w 470, 3) := by decide +kernel
theorem dX12_chair_23 : decode cX12_chair 23 = .ok (.invokestatic 155, 3) := by decide +kernel
theorem dX12_chair_26 : decode cX12_chair 26 = .ok (.ifCond .eq 15, 3) := by decide +kernel
theorem dX12_chair_29 : decode cX12_chair 29 = .ok (.iload_n 3, 1) := by decide +kernel
theorem dX12_chair_30 : decode cX12_chair 30 = .ok (.i2l, 1) := by decide +kernel
theorem dX12_chair_31 : decode cX12_chair 31 = .ok (.lconst 0, 1) := by decide +kernel
theorem dX12_chair_32 : decode cX12_chair 32 = .ok (.iload 4, 2) := by decide +kernel
theorem dX12_chair_34 : decode cX12_chair 34 = .ok (.i2l, 1) := by decide +kernel
theorem dX12_chair_35 : decode cX12_chair 35 = .ok (.invokestatic 155, 3) := by decide +kernel
theorem dX12_chair_38 : decode cX12_chair 38 = .ok (.ifCond .ne 7, 3) := by decide +kernel
theorem dX12_chair_41 : decode cX12_chair 41 = .ok (.ldc_w 422, 3) := by decide +kernel
theorem dX12_chair_44 : decode cX12_chair 44 = .ok (.ireturn, 1) := by decide +kernel
theorem dX12_chair_45 : decode cX12_chair 45 = .ok (.iconst 1, 1) := by decide +kernel
theorem dX12_chair_46 : decode cX12_chair 46 = .ok (.istore 5, 2) := by decide +kernel
theorem dX12_chair_48 : decode cX12_chair 48 = .ok (.iconst 0, 1) := by decide +kernel
theorem dX12_chair_49 : decode cX12_chair 49 = .ok (.istore 6, 2) := by decide +kernel
theorem dX12_chair_51 : decode cX12_chair 51 = .ok (.iload 6, 2) := by decide +kernel
theorem dX12_chair_53 : decode cX12_chair 53 = .ok (.iload 4, 2) := by decide +kernel
theorem dX12_chair_55 : decode cX12_chair 55 = .ok (.if_icmp .ge 16, 3) := by decide +kernel
theorem dX12_chair_58 : decode cX12_chair 58 = .ok (.iload 5, 2) := by decide +kernel
theorem dX12_chair_60 : decode cX12_chair 60 = .ok (.iload 4, 2) := by decide +kernel
theorem dX12_chair_62 : decode cX12_chair 62 = .ok (.imul, 1) := by decide +kernel
theorem dX12_chair_63 : decode cX12_chair 63 = .ok (.istore 5, 2) := by decide +kernel
theorem dX12_chair_65 : decode cX12_chair 65 = .ok (.iinc 6 1, 3) := by decide +kernel
theorem dX12_chair_68 : decode cX12_chair 68 = .ok (.goto (-17), 3) := by decide +kernel
theorem dX12_chair_71 : decode cX12_chair 71 = .ok (.iconst 0, 1) := by decide +kernel
theorem dX12_chair_72 : decode cX12_chair 72 = .ok (.istore 6, 2) := by decide +kernel
theorem dX12_chair_74 : decode cX12_chair 74 = .ok (.iconst 0, 1) := by decide +kernel
theorem dX12_chair_75 : decode cX12_chair 75 = .ok (.istore 7, 2) := by decide +kernel
theorem dX12_chair_77 : decode cX12_chair 77 = .ok (.iconst 0, 1) := by decide +kernel
theorem dX12_chair_78 : decode cX12_chair 78 = .ok (.istore 8, 2) := by decide +kernel
theorem dX12_chair_80 : decode cX12_chair 80 = .ok (.iload 8, 2) := by decide +kernel
theorem dX12_chair_82 : decode cX12_chair 82 = .ok (.iload 5, 2) := by decide +kernel
theorem dX12_chair_84 : decode cX12_chair 84 = .ok (.if_icmp .ge 176, 3) := by decide +kernel
theorem dX12_chair_87 : decode cX12_chair 87 = .ok (.aload_n 0, 1) := by decide +kernel
theorem dX12_chair_88 : decode cX12_chair 88 = .ok (.iload 8, 2) := by decide +kernel
theorem dX12_chair_90 : decode cX12_chair 90 = .ok (.iload 4, 2) := by decide +kernel
theorem dX12_chair_92 : decode cX12_chair 92 = .ok (.invokevirtual 472, 3) := by decide +kernel
theorem dX12_chair_95 : decode cX12_chair 95 = .ok (.ifCond .ne 6, 3) := by decide +kernel
theorem dX12_chair_98 : decode cX12_chair 98 = .ok (.goto 156, 3) := by decide +kernel
theorem dX12_chair_101 : decode cX12_chair 101 = .ok (.aload_n 0, 1) := by decide +kernel
theorem dX12_chair_102 : decode cX12_chair 102 = .ok (.invokevirtual 393, 3) := by decide +kernel
theorem dX12_chair_105 : decode cX12_chair 105 = .ok (.iconst 0, 1) := by decide +kernel
theorem dX12_chair_106 : decode cX12_chair 106 = .ok (.istore 9, 2) := by decide +kernel
theorem dX12_chair_108 : decode cX12_chair 108 = .ok (.iload 9, 2) := by decide +kernel
theorem dX12_chair_110 : decode cX12_chair 110 = .ok (.iload 4, 2) := by decide +kernel
theorem dX12_chair_112 : decode cX12_chair 112 = .ok (.if_icmp .ge 32, 3) := by decide +kernel
theorem dX12_chair_115 : decode cX12_chair 115 = .ok (.aload_n 0, 1) := by decide +kernel
theorem dX12_chair_116 : decode cX12_chair 116 = .ok (.getfield 54, 3) := by decide +kernel
theorem dX12_chair_119 : decode cX12_chair 119 = .ok (.iload 9, 2) := by decide +kernel
theorem dX12_chair_121 : decode cX12_chair 121 = .ok (.aload_n 0, 1) := by decide +kernel
theorem dX12_chair_122 : decode cX12_chair 122 = .ok (.getfield 45, 3) := by decide +kernel
theorem dX12_chair_125 : decode cX12_chair 125 = .ok (.sipush 170, 3) := by decide +kernel
theorem dX12_chair_128 : decode cX12_chair 128 = .ok (.aload_n 0, 1) := by decide +kernel
theorem dX12_chair_129 : decode cX12_chair 129 = .ok (.getfield 90, 3) := by decide +kernel
theorem dX12_chair_132 : decode cX12_chair 132 = .ok (.iload 9, 2) := by decide +kernel
theorem dX12_chair_134 : decode cX12_chair 134 = .ok (.iaload, 1) := by decide +kernel
theorem dX12_chair_135 : decode cX12_chair 135 = .ok (.iadd, 1) := by decide +kernel
theorem dX12_chair_136 : decode cX12_chair 136 = .ok (.iaload, 1) := by decide +kernel
theorem dX12_chair_137 : decode cX12_chair 137 = .ok (.iastore, 1) := by decide +kernel
theorem dX12_chair_138 : decode cX12_chair 138 = .ok (.iinc 9 1, 3) := by decide +kernel
theorem dX12_chair_141 : decode cX12_chair 141 = .ok (.goto (-33), 3) := by decide +kernel
theorem dX12_chair_144 : decode cX12_chair 144 = .ok (.aload_n 0, 1) := by decide +kernel
theorem dX12_chair_145 : decode cX12_chair 145 = .ok (.iconst 0, 1) := by decide +kernel
theorem dX12_chair_146 : decode cX12_chair 146 = .ok (.putfield 410, 3) := by decide +kernel
theorem dX12_chair_149 : decode cX12_chair 149 = .ok (.aload_n 0, 1) := by decide +kernel
theorem dX12_chair_150 : decode cX12_chair 150 = .ok (.iload_n 1, 1) := by decide +kernel
theorem dX12_chair_151 : decode cX12_chair 151 = .ok (.invokevirtual 417, 3) := by decide +kernel
theorem dX12_chair_154 : decode cX12_chair 154 = .ok (.iload 6, 2) := by decide +kernel
theorem dX12_chair_156 : decode cX12_chair 156 = .ok (.ifCond .eq 44, 3) := by decide +kernel
theorem dX12_chair_159 : decode cX12_chair 159 = .ok (.iload_n 2, 1) := by decide +kernel
theorem dX12_chair_160 : decode cX12_chair 160 = .ok (.ifCond .eq 15, 3) := by decide +kernel
theorem dX12_chair_163 : decode cX12_chair 163 = .ok (.aload_n 0, 1) := by decide +kernel
theorem dX12_chair_164 : decode cX12_chair 164 = .ok (.getfield 410, 3) := by decide +kernel
theorem dX12_chair_167 : decode cX12_chair 167 = .ok (.iload 7, 2) := by decide +kernel
theorem dX12_chair_169 : decode cX12_chair 169 = .ok (.if_icmp .le 15, 3) := by decide +kernel
theorem dX12_chair_172 : decode cX12_chair 172 = .ok (.goto 28, 3) := by decide +kernel
theorem dX12_chair_175 : decode cX12_chair 175 = .ok (.aload_n 0, 1) := by decide +kernel
theorem dX12_chair_176 : decode cX12_chair 176 = .ok (.getfield 410, 3) := by decide +kernel
theorem dX12_chair_179 : decode cX12_chair 179 = .ok (.iload 7, 2) := by decide +kernel
theorem dX12_chair_181 : decode cX12_chair 181 = .ok (.if_icmp .lt 19, 3) := by decide +kernel
theorem dX12_chair_184 : decode cX12_chair 184 = .ok (.aload_n 0, 1) := by decide +kernel
theorem dX12_chair_185 : decode cX12_chair 185 = .ok (.getfield 410, 3) := by decide +kernel
theorem dX12_chair_188 : decode cX12_chair 188 = .ok (.iload 7, 2) := by decide +kernel
theorem dX12_chair_190 : decode cX12_chair 190 = .ok (.if_icmp .ne 14, 3) := by decide +kernel
theorem dX12_chair_193 : decode cX12_chair 193 = .ok (.aload_n 0, 1) := by decide +kernel
theorem dX12_chair_194 : decode cX12_chair 194 = .ok (.invokevirtual 475, 3) := by decide +kernel
theorem dX12_chair_197 : decode cX12_chair 197 = .ok (.ifCond .eq 7, 3) := by decide +kernel
theorem dX12_chair_200 : decode cX12_chair 200 = .ok (.iconst 1, 1) := by decide +kernel
theorem dX12_chair_201 : decode cX12_chair 201 = .ok (.goto 4, 3) := by decide +kernel
theorem dX12_chair_204 : decode cX12_chair 204 = .ok (.iconst 0, 1) := by decide +kernel
theorem dX12_chair_205 : decode cX12_chair 205 = .ok (.istore 9, 2) := by decide +kernel
theorem dX12_chair_207 : decode cX12_chair 207 = .ok (.iload 9, 2) := by decide +kernel
theorem dX12_chair_209 : decode cX12_chair 209 = .ok (.ifCond .ne 6, 3) := by decide +kernel
theorem dX12_chair_212 : decode cX12_chair 212 = .ok (.goto 42, 3) := by decide +kernel
theorem dX12_chair_215 : decode cX12_chair 215 = .ok (.iconst 1, 1) := by decide +kernel
theorem dX12_chair_216 : decode cX12_chair 216 = .ok (.istore 6, 2) := by decide +kernel
theorem dX12_chair_218 : decode cX12_chair 218 = .ok (.aload_n 0, 1) := by decide +kernel
theorem dX12_chair_219 : decode cX12_chair 219 = .ok (.getfield 410, 3) := by decide +kernel
theorem dX12_chair_222 : decode cX12_chair 222 = .ok (.istore 7, 2) := by decide +kernel
theorem dX12_chair_224 : decode cX12_chair 224 = .ok (.iconst 0, 1) := by decide +kernel
theorem dX12_chair_225 : decode cX12_chair 225 = .ok (.istore 10, 2) := by decide +kernel
theorem dX12_chair_227 : decode cX12_chair 227 = .ok (.iload 10, 2) := by decide +kernel
theorem dX12_chair_229 : decode cX12_chair 229 = .ok (.iload 4, 2) := by decide +kernel
theorem dX12_chair_231 : decode cX12_chair 231 = .ok (.if_icmp .ge 23, 3) := by decide +kernel
theorem dX12_chair_234 : decode cX12_chair 234 = .ok (.aload_n 0, 1) := by decide +kernel
theorem dX12_chair_235 : decode cX12_chair 235 = .ok (.getfield 87, 3) := by decide +kernel
theorem dX12_chair_238 : decode cX12_chair 238 = .ok (.iload 10, 2) := by decide +kernel
theorem dX12_chair_240 : decode cX12_chair 240 = .ok (.aload_n 0, 1) := by decide +kernel
theorem dX12_chair_241 : decode cX12_chair 241 = .ok (.getfield 54, 3) := by decide +kernel
theorem dX12_chair_244 : decode cX12_chair 244 = .ok (.iload 10, 2) := by decide +kernel
theorem dX12_chair_246 : decode cX12_chair 246 = .ok (.iaload, 1) := by decide +kernel
theorem dX12_chair_247 : decode cX12_chair 247 = .ok (.iastore, 1) := by decide +kernel
theorem dX12_chair_248 : decode cX12_chair 248 = .ok (.iinc 10 1, 3) := by decide +kernel
theorem dX12_chair_251 : decode cX12_chair 251 = .ok (.goto (-24), 3) := by decide +kernel
theorem dX12_chair_254 : decode cX12_chair 254 = .ok (.iinc 8 1, 3) := by decide +kernel
theorem dX12_chair_257 : decode cX12_chair 257 = .ok (.goto (-177), 3) := by decide +kernel
theorem dX12_chair_260 : decode cX12_chair 260 = .ok (.iload_n 3, 1) := by decide +kernel
theorem dX12_chair_261 : decode cX12_chair 261 = .ok (.ifCond .ne 8, 3) := by decide +kernel
theorem dX12_chair_264 : decode cX12_chair 264 = .ok (.iload 7, 2) := by decide +kernel
theorem dX12_chair_266 : decode cX12_chair 266 = .ok (.goto 11, 3) := by decide +kernel
theorem dX12_chair_269 : decode cX12_chair 269 = .ok (.aload_n 0, 1) := by decide +kernel
theorem dX12_chair_270 : decode cX12_chair 270 = .ok (.getfield 87, 3) := by decide +kernel
theorem dX12_chair_273 : decode cX12_chair 273 = .ok (.iload_n 3, 1) := by decide +kernel
theorem dX12_chair_274 : decode cX12_chair 274 = .ok (.iconst 1, 1) := by decide +kernel
theorem dX12_chair_275 : decode cX12_chair 275 = .ok (.isub, 1) := by decide +kernel
theorem dX12_chair_276 : decode cX12_chair 276 = .ok (.iaload, 1) := by decide +kernel
theorem dX12_chair_277 : decode cX12_chair 277 = .ok (.ireturn, 1) := by decide +kernel
theorem dX12_clauseHere_0 : decode cX12_clauseHere 0 = .ok (.aload_n 0, 1) := by decide +kernel
theorem dX12_clauseHere_1 : decode cX12_clauseHere 1 = .ok (.invokevirtual 130, 3) := by decide +kernel
theorem dX12_clauseHere_4 : decode cX12_clauseHere 4 = .ok (.pop, 1) := by decide +kernel
theorem dX12_clauseHere_5 : decode cX12_clauseHere 5 = .ok (.aload_n 0, 1) := by decide +kernel
theorem dX12_clauseHere_6 : decode cX12_clauseHere 6 = .ok (.getfield 127, 3) := by decide +kernel
theorem dX12_clauseHere_9 : decode cX12_clauseHere 9 = .ok (.istore_n 1, 1) := by decide +kernel
theorem dX12_clauseHere_10 : decode cX12_clauseHere 10 = .ok (.aload_n 0, 1) := by decide +kernel
theorem dX12_clauseHere_11 : decode cX12_clauseHere 11 = .ok (.getfield 179, 3) := by decide +kernel
theorem dX12_clauseHere_14 : decode cX12_clauseHere 14 = .ok (.bipush 6, 2) := by decide +kernel
theorem dX12_clauseHere_16 : decode cX12_clauseHere 16 = .ok (.if_icmp .ne 7, 3) := by decide +kernel
theorem dX12_clauseHere_19 : decode cX12_clauseHere 19 = .ok (.iconst 1, 1) := by decide +kernel
theorem dX12_clauseHere_20 : decode cX12_clauseHere 20 = .ok (.goto 4, 3) := by decide +kernel
theorem dX12_clauseHere_23 : decode cX12_clauseHere 23 = .ok (.iconst 0, 1) := by decide +kernel
theorem dX12_clauseHere_24 : decode cX12_clauseHere 24 = .ok (.istore_n 2, 1) := by decide +kernel
theorem dX12_clauseHere_25 : decode cX12_clauseHere 25 = .ok (.iload_n 2, 1) := by decide +kernel
theorem dX12_clauseHere_26 : decode cX12_clauseHere 26 = .ok (.ifCond .eq 51, 3) := by decide +kernel
theorem dX12_clauseHere_29 : decode cX12_clauseHere 29 = .ok (.aload_n 0, 1) := by decide +kernel
theorem dX12_clauseHere_30 : decode cX12_clauseHere 30 = .ok (.ldc2_w 264, 3) := by decide +kernel
theorem dX12_clauseHere_33 : decode cX12_clauseHere 33 = .ok (.invokevirtual 138, 3) := by decide +kernel
theorem dX12_clauseHere_36 : decode cX12_clauseHere 36 = .ok (.ifCond .ne 33, 3) := by decide +kernel
theorem dX12_clauseHere_39 : decode cX12_clauseHere 39 = .ok (.aload_n 0, 1) := by decide +kernel
theorem dX12_clauseHere_40 : decode cX12_clauseHere 40 = .ok (.ldc2_w 161, 3) := by decide +kernel
theorem dX12_clauseHere_43 : decode cX12_clauseHere 43 = .ok (.invokevirtual 138, 3) := by decide +kernel
theorem dX12_clauseHere_46 : decode cX12_clauseHere 46 = .ok (.ifCond .ne 23, 3) := by decide +kernel
theorem dX12_clauseHere_49 : decode cX12_clauseHere 49 = .ok (.aload_n 0, 1) := by decide +kernel
theorem dX12_clauseHere_50 : decode cX12_clauseHere 50 = .ok (.ldc2_w 165, 3) := by decide +kernel
theorem dX12_clauseHere_53 : decode cX12_clauseHere 53 = .ok (.invokevirtual 138, 3) := by decide +kernel
theorem dX12_clauseHere_56 : decode cX12_clauseHere 56 = .ok (.ifCond .ne 13, 3) := by decide +kernel
theorem dX12_clauseHere_59 : decode cX12_clauseHere 59 = .ok (.aload_n 0, 1) := by decide +kernel
theorem dX12_clauseHere_60 : decode cX12_clauseHere 60 = .ok (.ldc2_w 278, 3) := by decide +kernel
theorem dX12_clauseHere_63 : decode cX12_clauseHere 63 = .ok (.invokevirtual 138, 3) := by decide +kernel
theorem dX12_clauseHere_66 : decode cX12_clauseHere 66 = .ok (.ifCond .eq 7, 3) := by decide +kernel
theorem dX12_clauseHere_69 : decode cX12_clauseHere 69 = .ok (.iconst 1, 1) := by decide +kernel
theorem dX12_clauseHere_70 : decode cX12_clauseHere 70 = .ok (.goto 42, 3) := by decide +kernel
theorem dX12_clauseHere_73 : decode cX12_clauseHere 73 = .ok (.iconst 0, 1) := by decide +kernel
theorem dX12_clauseHere_74 : decode cX12_clauseHere 74 = .ok (.goto 38, 3) := by decide +kernel
theorem dX12_clauseHere_77 : decode cX12_clauseHere 77 = .ok (.aload_n 0, 1) := by decide +kernel
theorem dX12_clauseHere_78 : decode cX12_clauseHere 78 = .ok (.ldc2_w 280, 3) := by decide +kernel
theorem dX12_clauseHere_81 : decode cX12_clauseHere 81 = .ok (.invokevirtual 138, 3) := by decide +kernel
theorem dX12_clauseHere_84 : decode cX12_clauseHere 84 = .ok (.ifCond .ne 23, 3) := by decide +kernel
theorem dX12_clauseHere_87 : decode cX12_clauseHere 87 = .ok (.aload_n 0, 1) := by decide +kernel
theorem dX12_clauseHere_88 : decode cX12_clauseHere 88 = .ok (.ldc2_w 282, 3) := by decide +kernel
theorem dX12_clauseHere_91 : decode cX12_clauseHere 91 = .ok (.invokevirtual 138, 3) := by decide +kernel
theorem dX12_clauseHere_94 : decode cX12_clauseHere 94 = .ok (.ifCond .ne 13, 3) := by decide +kernel
theorem dX12_clauseHere_97 : decode cX12_clauseHere 97 = .ok (.aload_n 0, 1) := by decide +kernel
theorem dX12_clauseHere_98 : decode cX12_clauseHere 98 = .ok (.ldc2_w 284, 3) := by decide +kernel
theorem dX12_clauseHere_101 : decode cX12_clauseHere 101 = .ok (.invokevirtual 138, 3) := by decide +kernel
theorem dX12_clauseHere_104 : decode cX12_clauseHere 104 = .ok (.ifCond .eq 7, 3) := by decide +kernel
theorem dX12_clauseHere_107 : decode cX12_clauseHere 107 = .ok (.iconst 1, 1) := by decide +kernel
theorem dX12_clauseHere_108 : decode cX12_clauseHere 108 = .ok (.goto 4, 3) := by decide +kernel
theorem dX12_clauseHere_111 : decode cX12_clauseHere 111 = .ok (.iconst 0, 1) := by decide +kernel
theorem dX12_clauseHere_112 : decode cX12_clauseHere 112 = .ok (.istore_n 3, 1) := by decide +kernel
theorem dX12_clauseHere_113 : decode cX12_clauseHere 113 = .ok (.iload_n 3, 1) := by decide +kernel
theorem dX12_clauseHere_114 : decode cX12_clauseHere 114 = .ok (.ifCond .ne 10, 3) := by decide +kernel
theorem dX12_clauseHere_117 : decode cX12_clauseHere 117 = .ok (.aload_n 0, 1) := by decide +kernel
theorem dX12_clauseHere_118 : decode cX12_clauseHere 118 = .ok (.iconst 0, 1) := by decide +kernel
theorem dX12_clauseHere_119 : decode cX12_clauseHere 119 = .ok (.iload_n 1, 1) := by decide +kernel
theorem dX12_clauseHere_120 : decode cX12_clauseHere 120 = .ok (.invokevirtual 148, 3) := by decide +kernel
theorem dX12_clauseHere_123 : decode cX12_clauseHere 123 = .ok (.ireturn, 1) := by decide +kernel
theorem dX12_clauseHere_124 : decode cX12_clauseHere 124 = .ok (.aload_n 0, 1) := by decide +kernel
theorem dX12_clauseHere_125 : decode cX12_clauseHere 125 = .ok (.getfield 286, 3) := by decide +kernel
theorem dX12_clauseHere_128 : decode cX12_clauseHere 128 = .ok (.iload_n 2, 1) := by decide +kernel
theorem dX12_clauseHere_129 : decode cX12_clauseHere 129 = .ok (.ifCond .eq 8, 3) := by decide +kernel
theorem dX12_clauseHere_132 : decode cX12_clauseHere 132 = .ok (.bipush 16, 2) := by decide +kernel
theorem dX12_clauseHere_134 : decode cX12_clauseHere 134 = .ok (.goto 5, 3) := by decide +kernel
theorem dX12_clauseHere_137 : decode cX12_clauseHere 137 = .ok (.bipush 12, 2) := by decide +kernel
theorem dX12_clauseHere_139 : decode cX12_clauseHere 139 = .ok (.if_icmp .ne 10, 3) := by decide +kernel
theorem dX12_clauseHere_142 : decode cX12_clauseHere 142 = .ok (.aload_n 0, 1) := by decide +kernel
theorem dX12_clauseHere_143 : decode cX12_clauseHere 143 = .ok (.iconst 4, 1) := by decide +kernel
theorem dX12_clauseHere_144 : decode cX12_clauseHere 144 = .ok (.iload_n 1, 1) := by decide +kernel
theorem dX12_clauseHere_145 : decode cX12_clauseHere 145 = .ok (.invokevirtual 148, 3) := by decide +kernel
theorem dX12_clauseHere_148 : decode cX12_clauseHere 148 = .ok (.ireturn, 1) := by decide +kernel
theorem dX12_clauseHere_149 : decode cX12_clauseHere 149 = .ok (.aload_n 0, 1) := by decide +kernel
theorem dX12_clauseHere_150 : decode cX12_clauseHere 150 = .ok (.dup, 1) := by decide +kernel
theorem dX12_clauseHere_151 : decode cX12_clauseHere 151 = .ok (.getfield 286, 3) := by decide +kernel
theorem dX12_clauseHere_154 : decode cX12_clauseHere 154 = .ok (.iconst 1, 1) := by decide +kernel
theorem dX12_clauseHere_155 : decode cX12_clauseHere 155 = .ok (.iadd, 1) := by decide +kernel
theorem dX12_clauseHere_156 : decode cX12_clauseHere 156 = .ok (.putfield 286, 3) := by decide +kernel
theorem dX12_clauseHere_159 : decode cX12_clauseHere 159 = .ok (.iload_n 2, 1) := by decide +kernel
theorem dX12_clauseHere_160 : decode cX12_clauseHere 160 = .ok (.ifCond .eq 9, 3) := by decide +kernel
theorem dX12_clauseHere_163 : decode cX12_clauseHere 163 = .ok (.aload_n 0, 1) := by decide +kernel
theorem dX12_clauseHere_164 : decode cX12_clauseHere 164 = .ok (.iload_n 1, 1) := by decide +kernel
theorem dX12_clauseHere_165 : decode cX12_clauseHere 165 = .ok (.invokevirtual 289, 3) := by decide +kernel
theorem dX12_clauseHere_168 : decode cX12_clauseHere 168 = .ok (.ireturn, 1) := by decide +kernel
theorem dX12_clauseHere_169 : decode cX12_clauseHere 169 = .ok (.aload_n 0, 1) := by decide +kernel
theorem dX12_clauseHere_170 : decode cX12_clauseHere 170 = .ok (.aload_n 0, 1) := by decide +kernel
theorem dX12_clauseHere_171 : decode cX12_clauseHere 171 = .ok (.ldc2_w 280, 3) := by decide +kernel
theorem dX12_clauseHere_174 : decode cX12_clauseHere 174 = .ok (.invokevirtual 138, 3) := by decide +kernel
theorem dX12_clauseHere_177 : decode cX12_clauseHere 177 = .ok (.ifCond .eq 7, 3) := by decide +kernel
theorem dX12_clauseHere_180 : decode cX12_clauseHere 180 = .ok (.iconst 1, 1) := by decide +kernel
theorem dX12_clauseHere_181 : decode cX12_clauseHere 181 = .ok (.goto 18, 3) := by decide +kernel
theorem dX12_clauseHere_184 : decode cX12_clauseHere 184 = .ok (.aload_n 0, 1) := by decide +kernel
theorem dX12_clauseHere_185 : decode cX12_clauseHere 185 = .ok (.ldc2_w 282, 3) := by decide +kernel
theorem dX12_clauseHere_188 : decode cX12_clauseHere 188 = .ok (.invokevirtual 138, 3) := by decide +kernel
theorem dX12_clauseHere_191 : decode cX12_clauseHere 191 = .ok (.ifCond .eq 7, 3) := by decide +kernel
theorem dX12_clauseHere_194 : decode cX12_clauseHere 194 = .ok (.iconst 0, 1) := by decide +kernel
theorem dX12_clauseHere_195 : decode cX12_clauseHere 195 = .ok (.goto 4, 3) := by decide +kernel
theorem dX12_clauseHere_198 : decode cX12_clauseHere 198 = .ok (.iconst 2, 1) := by decide +kernel
theorem dX12_clauseHere_199 : decode cX12_clauseHere 199 = .ok (.invokevirtual 292, 3) := by decide +kernel
theorem dX12_clauseHere_202 : decode cX12_clauseHere 202 = .ok (.ireturn, 1) := by decide +kernel
theorem dX12_closes_0 : decode cX12_closes 0 = .ok (.aload_n 0, 1) := by decide +kernel
theorem dX12_closes_1 : decode cX12_closes 1 = .ok (.iconst 3, 1) := by decide +kernel
theorem dX12_closes_2 : decode cX12_closes 2 = .ok (.invokevirtual 227, 3) := by decide +kernel
theorem dX12_closes_5 : decode cX12_closes 5 = .ok (.aload_n 0, 1) := by decide +kernel
theorem dX12_closes_6 : decode cX12_closes 6 = .ok (.invokevirtual 130, 3) := by decide +kernel
theorem dX12_closes_9 : decode cX12_closes 9 = .ok (.bipush 93, 2) := by decide +kernel
theorem dX12_closes_11 : decode cX12_closes 11 = .ok (.if_icmp .ne 53, 3) := by decide +kernel
theorem dX12_closes_14 : decode cX12_closes 14 = .ok (.aload_n 0, 1) := by decide +kernel
theorem dX12_closes_15 : decode cX12_closes 15 = .ok (.invokevirtual 230, 3) := by decide +kernel
theorem dX12_closes_18 : decode cX12_closes 18 = .ok (.ifCond .eq 46, 3) := by decide +kernel
theorem dX12_closes_21 : decode cX12_closes 21 = .ok (.aload_n 0, 1) := by decide +kernel
theorem dX12_closes_22 : decode cX12_closes 22 = .ok (.iconst 1, 1) := by decide +kernel
theorem dX12_closes_23 : decode cX12_closes 23 = .ok (.invokevirtual 227, 3) := by decide +kernel
theorem dX12_closes_26 : decode cX12_closes 26 = .ok (.aload_n 0, 1) := by decide +kernel
theorem dX12_closes_27 : decode cX12_closes 27 = .ok (.dup, 1) := by decide +kernel
theorem dX12_closes_28 : decode cX12_closes 28 = .ok (.getfield 188, 3) := by decide +kernel
theorem dX12_closes_31 : decode cX12_closes 31 = .ok (.iconst 1, 1) := by decide +kernel
theorem dX12_closes_32 : decode cX12_closes 32 = .ok (.isub, 1) := by decide +kernel
theorem dX12_closes_33 : decode cX12_closes 33 = .ok (.putfield 188, 3) := by decide +kernel
theorem dX12_closes_36 : decode cX12_closes 36 = .ok (.aload_n 0, 1) := by decide +kernel
theorem dX12_closes_37 : decode cX12_closes 37 = .ok (.dup, 1) := by decide +kernel
theorem dX12_closes_38 : decode cX12_closes 38 = .ok (.getfield 185, 3) := by decide +kernel
theorem dX12_closes_41 : decode cX12_closes 41 = .ok (.iconst 1, 1) := by decide +kernel
theorem dX12_closes_42 : decode cX12_closes 42 = .ok (.isub, 1) := by decide +kernel
theorem dX12_closes_43 : decode cX12_closes 43 = .ok (.putfield 185, 3) := by decide +kernel
theorem dX12_closes_46 : decode cX12_closes 46 = .ok (.aload_n 0, 1) := by decide +kernel
theorem dX12_closes_47 : decode cX12_closes 47 = .ok (.dup, 1) := by decide +kernel
theorem dX12_closes_48 : decode cX12_closes 48 = .ok (.getfield 127, 3) := by decide +kernel
theorem dX12_closes_51 : decode cX12_closes 51 = .ok (.iconst 1, 1) := by decide +kernel
theorem dX12_closes_52 : decode cX12_closes 52 = .ok (.iadd, 1) := by decide +kernel
theorem dX12_closes_53 : decode cX12_closes 53 = .ok (.putfield 127, 3) := by decide +kernel
theorem dX12_closes_56 : decode cX12_closes 56 = .ok (.aload_n 0, 1) := by decide +kernel
theorem dX12_closes_57 : decode cX12_closes 57 = .ok (.iconst 3, 1) := by decide +kernel
theorem dX12_closes_58 : decode cX12_closes 58 = .ok (.invokevirtual 227, 3) := by decide +kernel
theorem dX12_closes_61 : decode cX12_closes 61 = .ok (.goto (-56), 3) := by decide +kernel
theorem dX12_closes_64 : decode cX12_closes 64 = .ok (.return_, 1) := by decide +kernel
theorem dX12_comesTo_0 : decode cX12_comesTo 0 = .ok (.iconst 0, 1) := by decide +kernel
theorem dX12_comesTo_1 : decode cX12_comesTo 1 = .ok (.istore_n 2, 1) := by decide +kernel
theorem dX12_comesTo_2 : decode cX12_comesTo 2 = .ok (.iload_n 2, 1) := by decide +kernel
theorem dX12_comesTo_3 : decode cX12_comesTo 3 = .ok (.bipush 10, 2) := by decide +kernel
theorem dX12_comesTo_5 : decode cX12_comesTo 5 = .ok (.if_icmp .ge 26, 3) := by decide +kernel
theorem dX12_comesTo_8 : decode cX12_comesTo 8 = .ok (.aload_n 0, 1) := by decide +kernel
theorem dX12_comesTo_9 : decode cX12_comesTo 9 = .ok (.getfield 63, 3) := by decide +kernel
theorem dX12_comesTo_12 : decode cX12_comesTo 12 = .ok (.bipush 10, 2) := by decide +kernel
theorem dX12_comesTo_14 : decode cX12_comesTo 14 = .ok (.iload_n 1, 1) := by decide +kernel
theorem dX12_comesTo_15 : decode cX12_comesTo 15 = .ok (.imul, 1) := by decide +kernel
theorem dX12_comesTo_16 : decode cX12_comesTo 16 = .ok (.iload_n 2, 1) := by decide +kernel
theorem dX12_comesTo_17 : decode cX12_comesTo 17 = .ok (.iadd, 1) := by decide +kernel
theorem dX12_comesTo_18 : decode cX12_comesTo 18 = .ok (.aload_n 0, 1) := by decide +kernel
theorem dX12_comesTo_19 : decode cX12_comesTo 19 = .ok (.getfield 51, 3) := by decide +kernel
theorem dX12_comesTo_22 : decode cX12_comesTo 22 = .ok (.iload_n 2, 1) := by decide +kernel
theorem dX12_comesTo_23 : decode cX12_comesTo 23 = .ok (.iaload, 1) := by decide +kernel
theorem dX12_comesTo_24 : decode cX12_comesTo 24 = .ok (.iastore, 1) := by decide +kernel
theorem dX12_comesTo_25 : decode cX12_comesTo 25 = .ok (.iinc 2 1, 3) := by decide +kernel
theorem dX12_comesTo_28 : decode cX12_comesTo 28 = .ok (.goto (-26), 3) := by decide +kernel
theorem dX12_comesTo_31 : decode cX12_comesTo 31 = .ok (.aload_n 0, 1) := by decide +kernel
theorem dX12_comesTo_32 : decode cX12_comesTo 32 = .ok (.aload_n 0, 1) := by decide +kernel
theorem dX12_comesTo_33 : decode cX12_comesTo 33 = .ok (.getfield 45, 3) := by decide +kernel
theorem dX12_comesTo_36 : decode cX12_comesTo 36 = .ok (.iconst 3, 1) := by decide +kernel
theorem dX12_comesTo_37 : decode cX12_comesTo 37 = .ok (.iaload, 1) := by decide +kernel
theorem dX12_comesTo_38 : decode cX12_comesTo 38 = .ok (.iload_n 1, 1) := by decide +kernel
theorem dX12_comesTo_39 : decode cX12_comesTo 39 = .ok (.iadd, 1) := by decide +kernel
theorem dX12_comesTo_40 : decode cX12_comesTo 40 = .ok (.putfield 348, 3) := by decide +kernel
theorem dX12_comesTo_43 : decode cX12_comesTo 43 = .ok (.aload_n 0, 1) := by decide +kernel
theorem dX12_comesTo_44 : decode cX12_comesTo 44 = .ok (.aload_n 0, 1) := by decide +kernel
theorem dX12_comesTo_45 : decode cX12_comesTo 45 = .ok (.getfield 54, 3) := by decide +kernel
theorem dX12_comesTo_48 : decode cX12_comesTo 48 = .ok (.iload_n 1, 1) := by decide +kernel
theorem dX12_comesTo_49 : decode cX12_comesTo 49 = .ok (.iaload, 1) := by decide +kernel
theorem dX12_comesTo_50 : decode cX12_comesTo 50 = .ok (.iload_n 1, 1) := by decide +kernel
theorem dX12_comesTo_51 : decode cX12_comesTo 51 = .ok (.invokevirtual 396, 3) := by decide +kernel
theorem dX12_comesTo_54 : decode cX12_comesTo 54 = .ok (.aload_n 0, 1) := by decide +kernel
theorem dX12_comesTo_55 : decode cX12_comesTo 55 = .ok (.getfield 72, 3) := by decide +kernel
theorem dX12_comesTo_58 : decode cX12_comesTo 58 = .ok (.iload_n 1, 1) := by decide +kernel
theorem dX12_comesTo_59 : decode cX12_comesTo 59 = .ok (.aload_n 0, 1) := by decide +kernel
theorem dX12_comesTo_60 : decode cX12_comesTo 60 = .ok (.getfield 364, 3) := by decide +kernel
theorem dX12_comesTo_63 : decode cX12_comesTo 63 = .ok (.iastore, 1) := by decide +kernel
theorem dX12_comesTo_64 : decode cX12_comesTo 64 = .ok (.aload_n 0, 1) := by decide +kernel
theorem dX12_comesTo_65 : decode cX12_comesTo 65 = .ok (.getfield 75, 3) := by decide +kernel
theorem dX12_comesTo_68 : decode cX12_comesTo 68 = .ok (.iload_n 1, 1) := by decide +kernel
theorem dX12_comesTo_69 : decode cX12_comesTo 69 = .ok (.aload_n 0, 1) := by decide +kernel
theorem dX12_comesTo_70 : decode cX12_comesTo 70 = .ok (.getfield 367, 3) := by decide +kernel
theorem dX12_comesTo_73 : decode cX12_comesTo 73 = .ok (.iastore, 1) := by decide +kernel
theorem dX12_comesTo_74 : decode cX12_comesTo 74 = .ok (.aload_n 0, 1) := by decide +kernel
theorem dX12_comesTo_75 : decode cX12_comesTo 75 = .ok (.getfield 66, 3) := by decide +kernel
theorem dX12_comesTo_78 : decode cX12_comesTo 78 = .ok (.iload_n 1, 1) := by decide +kernel
theorem dX12_comesTo_79 : decode cX12_comesTo 79 = .ok (.iconst (-1), 1) := by decide +kernel
theorem dX12_comesTo_80 : decode cX12_comesTo 80 = .ok (.iastore, 1) := by decide +kernel
theorem dX12_comesTo_81 : decode cX12_comesTo 81 = .ok (.return_, 1) := by decide +kernel
theorem dX12_compare_0 : decode cX12_compare 0 = .ok (.aload_n 0, 1) := by decide +kernel
theorem dX12_compare_1 : decode cX12_compare 1 = .ok (.invokevirtual 216, 3) := by decide +kernel
theorem dX12_compare_4 : decode cX12_compare 4 = .ok (.ifCond .ne 5, 3) := by decide +kernel
theorem dX12_compare_7 : decode cX12_compare 7 = .ok (.iconst 0, 1) := by decide +kernel
theorem dX12_compare_8 : decode cX12_compare 8 = .ok (.ireturn, 1) := by decide +kernel
theorem dX12_compare_9 : decode cX12_compare 9 = .ok (.aload_n 0, 1) := by decide +kernel
theorem dX12_compare_10 : decode cX12_compare 10 = .ok (.invokevirtual 130, 3) := by decide +kernel
theorem dX12_compare_13 : decode cX12_compare 13 = .ok (.istore_n 1, 1) := by decide +kernel
theorem dX12_compare_14 : decode cX12_compare 14 = .ok (.aload_n 0, 1) := by decide +kernel
theorem dX12_compare_15 : decode cX12_compare 15 = .ok (.getfield 127, 3) := by decide +kernel
theorem dX12_compare_18 : decode cX12_compare 18 = .ok (.istore_n 2, 1) := by decide +kernel
theorem dX12_compare_19 : decode cX12_compare 19 = .ok (.iload_n 1, 1) := by decide +kernel
theorem dX12_compare_20 : decode cX12_compare 20 = .ok (.bipush 60, 2) := by decide +kernel
theorem dX12_compare_22 : decode cX12_compare 22 = .ok (.if_icmp .eq 22, 3) := by decide +kernel
theorem dX12_compare_25 : decode cX12_compare 25 = .ok (.iload_n 1, 1) := by decide +kernel
theorem dX12_compare_26 : decode cX12_compare 26 = .ok (.bipush 61, 2) := by decide +kernel
theorem dX12_compare_28 : decode cX12_compare 28 = .ok (.if_icmp .eq 16, 3) := by decide +kernel
theorem dX12_compare_31 : decode cX12_compare 31 = .ok (.iload_n 1, 1) := by decide +kernel
theorem dX12_compare_32 : decode cX12_compare 32 = .ok (.bipush 62, 2) := by decide +kernel
theorem dX12_compare_34 : decode cX12_compare 34 = .ok (.if_icmp .eq 10, 3) := by decide +kernel
theorem dX12_compare_37 : decode cX12_compare 37 = .ok (.aload_n 0, 1) := by decide +kernel
theorem dX12_compare_38 : decode cX12_compare 38 = .ok (.iconst 0, 1) := by decide +kernel
theorem dX12_compare_39 : decode cX12_compare 39 = .ok (.iload_n 2, 1) := by decide +kernel
theorem dX12_compare_40 : decode cX12_compare 40 = .ok (.invokevirtual 148, 3) := by decide +kernel
theorem dX12_compare_43 : decode cX12_compare 43 = .ok (.ireturn, 1) := by decide +kernel
theorem dX12_compare_44 : decode cX12_compare 44 = .ok (.aload_n 0, 1) := by decide +kernel
theorem dX12_compare_45 : decode cX12_compare 45 = .ok (.dup, 1) := by decide +kernel
theorem dX12_compare_46 : decode cX12_compare 46 = .ok (.getfield 127, 3) := by decide +kernel
theorem dX12_compare_49 : decode cX12_compare 49 = .ok (.iconst 1, 1) := by decide +kernel
theorem dX12_compare_50 : decode cX12_compare 50 = .ok (.iadd, 1) := by decide +kernel
theorem dX12_compare_51 : decode cX12_compare 51 = .ok (.putfield 127, 3) := by decide +kernel
theorem dX12_compare_54 : decode cX12_compare 54 = .ok (.iload_n 1, 1) := by decide +kernel
theorem dX12_compare_55 : decode cX12_compare 55 = .ok (.bipush 61, 2) := by decide +kernel
theorem dX12_compare_57 : decode cX12_compare 57 = .ok (.if_icmp .eq 32, 3) := by decide +kernel
theorem dX12_compare_60 : decode cX12_compare 60 = .ok (.aload_n 0, 1) := by decide +kernel
theorem dX12_compare_61 : decode cX12_compare 61 = .ok (.getfield 127, 3) := by decide +kernel
theorem dX12_compare_64 : decode cX12_compare 64 = .ok (.aload_n 0, 1) := by decide +kernel
theorem dX12_compare_65 : decode cX12_compare 65 = .ok (.getfield 116, 3) := by decide +kernel
theorem dX12_compare_68 : decode cX12_compare 68 = .ok (.if_icmp .ge 21, 3) := by decide +kernel
theorem dX12_compare_71 : decode cX12_compare 71 = .ok (.aload_n 0, 1) := by decide +kernel
theorem dX12_compare_72 : decode cX12_compare 72 = .ok (.getfield 7, 3) := by decide +kernel
theorem dX12_compare_75 : decode cX12_compare 75 = .ok (.aload_n 0, 1) := by decide +kernel
theorem dX12_compare_76 : decode cX12_compare 76 = .ok (.getfield 127, 3) := by decide +kernel
theorem dX12_compare_79 : decode cX12_compare 79 = .ok (.baload, 1) := by decide +kernel
theorem dX12_compare_80 : decode cX12_compare 80 = .ok (.bipush 61, 2) := by decide +kernel
theorem dX12_compare_82 : decode cX12_compare 82 = .ok (.if_icmp .ne 7, 3) := by decide +kernel
theorem dX12_compare_85 : decode cX12_compare 85 = .ok (.iconst 1, 1) := by decide +kernel
theorem dX12_compare_86 : decode cX12_compare 86 = .ok (.goto 4, 3) := by decide +kernel
theorem dX12_compare_89 : decode cX12_compare 89 = .ok (.iconst 0, 1) := by decide +kernel
theorem dX12_compare_90 : decode cX12_compare 90 = .ok (.istore_n 3, 1) := by decide +kernel
theorem dX12_compare_91 : decode cX12_compare 91 = .ok (.iload_n 3, 1) := by decide +kernel
theorem dX12_compare_92 : decode cX12_compare 92 = .ok (.ifCond .eq 13, 3) := by decide +kernel
theorem dX12_compare_95 : decode cX12_compare 95 = .ok (.aload_n 0, 1) := by decide +kernel
theorem dX12_compare_96 : decode cX12_compare 96 = .ok (.dup, 1) := by decide +kernel
theorem dX12_compare_97 : decode cX12_compare 97 = .ok (.getfield 127, 3) := by decide +kernel
theorem dX12_compare_100 : decode cX12_compare 100 = .ok (.iconst 1, 1) := by decide +kernel
theorem dX12_compare_101 : decode cX12_compare 101 = .ok (.iadd, 1) := by decide +kernel
theorem dX12_compare_102 : decode cX12_compare 102 = .ok (.putfield 127, 3) := by decide +kernel
theorem dX12_compare_105 : decode cX12_compare 105 = .ok (.aload_n 0, 1) := by decide +kernel
theorem dX12_compare_106 : decode cX12_compare 106 = .ok (.iload_n 2, 1) := by decide +kernel
theorem dX12_compare_107 : decode cX12_compare 107 = .ok (.invokevirtual 203, 3) := by decide +kernel
theorem dX12_compare_110 : decode cX12_compare 110 = .ok (.ifCond .ne 5, 3) := by decide +kernel
theorem dX12_compare_113 : decode cX12_compare 113 = .ok (.iconst 0, 1) := by decide +kernel
theorem dX12_compare_114 : decode cX12_compare 114 = .ok (.ireturn, 1) := by decide +kernel
theorem dX12_compare_115 : decode cX12_compare 115 = .ok (.iload_n 1, 1) := by decide +kernel
theorem dX12_compare_116 : decode cX12_compare 116 = .ok (.bipush 60, 2) := by decide +kernel
theorem dX12_compare_118 : decode cX12_compare 118 = .ok (.if_icmp .ne 15, 3) := by decide +kernel
theorem dX12_compare_121 : decode cX12_compare 121 = .ok (.iload_n 3, 1) := by decide +kernel
theorem dX12_compare_122 : decode cX12_compare 122 = .ok (.ifCond .eq 7, 3) := by decide +kernel
theorem dX12_compare_125 : decode cX12_compare 125 = .ok (.iconst 1, 1) := by decide +kernel
theorem dX12_compare_126 : decode cX12_compare 126 = .ok (.goto 26, 3) := by decide +kernel
theorem dX12_compare_129 : decode cX12_compare 129 = .ok (.iconst 0, 1) := by decide +kernel
theorem dX12_compare_130 : decode cX12_compare 130 = .ok (.goto 22, 3) := by decide +kernel
theorem dX12_compare_133 : decode cX12_compare 133 = .ok (.iload_n 1, 1) := by decide +kernel
theorem dX12_compare_134 : decode cX12_compare 134 = .ok (.bipush 61, 2) := by decide +kernel
theorem dX12_compare_136 : decode cX12_compare 136 = .ok (.if_icmp .ne 7, 3) := by decide +kernel
theorem dX12_compare_139 : decode cX12_compare 139 = .ok (.iconst 2, 1) := by decide +kernel
theorem dX12_compare_140 : decode cX12_compare 140 = .ok (.goto 12, 3) := by decide +kernel
theorem dX12_compare_143 : decode cX12_compare 143 = .ok (.iload_n 3, 1) := by decide +kernel
theorem dX12_compare_144 : decode cX12_compare 144 = .ok (.ifCond .eq 7, 3) := by decide +kernel
theorem dX12_compare_147 : decode cX12_compare 147 = .ok (.iconst 3, 1) := by decide +kernel
theorem dX12_compare_148 : decode cX12_compare 148 = .ok (.goto 4, 3) := by decide +kernel
theorem dX12_compare_151 : decode cX12_compare 151 = .ok (.iconst 4, 1) := by decide +kernel
theorem dX12_compare_152 : decode cX12_compare 152 = .ok (.istore 4, 2) := by decide +kernel
theorem dX12_compare_154 : decode cX12_compare 154 = .ok (.aload_n 0, 1) := by decide +kernel
theorem dX12_compare_155 : decode cX12_compare 155 = .ok (.invokevirtual 216, 3) := by decide +kernel
theorem dX12_compare_158 : decode cX12_compare 158 = .ok (.ifCond .ne 5, 3) := by decide +kernel
theorem dX12_compare_161 : decode cX12_compare 161 = .ok (.iconst 0, 1) := by decide +kernel
theorem dX12_compare_162 : decode cX12_compare 162 = .ok (.ireturn, 1) := by decide +kernel
theorem dX12_compare_163 : decode cX12_compare 163 = .ok (.aload_n 0, 1) := by decide +kernel
theorem dX12_compare_164 : decode cX12_compare 164 = .ok (.bipush 6, 2) := by decide +kernel
theorem dX12_compare_166 : decode cX12_compare 166 = .ok (.iload 4, 2) := by decide +kernel
theorem dX12_compare_168 : decode cX12_compare 168 = .ok (.iadd, 1) := by decide +kernel
theorem dX12_compare_169 : decode cX12_compare 169 = .ok (.iconst 0, 1) := by decide +kernel
theorem dX12_compare_170 : decode cX12_compare 170 = .ok (.invokevirtual 195, 3) := by decide +kernel
theorem dX12_compare_173 : decode cX12_compare 173 = .ok (.iconst 1, 1) := by decide +kernel
theorem dX12_compare_174 : decode cX12_compare 174 = .ok (.ireturn, 1) := by decide +kernel
theorem dX12_council_0 : decode cX12_council 0 = .ok (.aload_n 0, 1) := by decide +kernel
theorem dX12_council_1 : decode cX12_council 1 = .ok (.bipush 6, 2) := by decide +kernel
theorem dX12_council_3 : decode cX12_council 3 = .ok (.putfield 179, 3) := by decide +kernel
theorem dX12_council_6 : decode cX12_council 6 = .ok (.aload_n 0, 1) := by decide +kernel
theorem dX12_council_7 : decode cX12_council 7 = .ok (.iconst 0, 1) := by decide +kernel
theorem dX12_council_8 : decode cX12_council 8 = .ok (.putfield 251, 3) := by decide +kernel
theorem dX12_council_11 : decode cX12_council 11 = .ok (.aload_n 0, 1) := by decide +kernel
theorem dX12_council_12 : decode cX12_council 12 = .ok (.iconst 0, 1) := by decide +kernel
theorem dX12_council_13 : decode cX12_council 13 = .ok (.putfield 254, 3) := by decide +kernel
theorem dX12_council_16 : decode cX12_council 16 = .ok (.aload_n 0, 1) := by decide +kernel
theorem dX12_council_17 : decode cX12_council 17 = .ok (.iconst 0, 1) := by decide +kernel
theorem dX12_council_18 : decode cX12_council 18 = .ok (.putfield 260, 3) := by decide +kernel
theorem dX12_council_21 : decode cX12_council 21 = .ok (.iconst 0, 1) := by decide +kernel
