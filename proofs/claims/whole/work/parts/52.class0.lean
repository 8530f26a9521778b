/-! THE CLASS: the fetched instructions of its methods -/
theorem f_0_0 : mj_fetch 0 0 = some (.aload_n 0, 0, 0) := by decide +kernel
theorem f_0_1 : mj_fetch 0 1 = some (.invokespecial 3, 0, 1) := by decide +kernel
theorem f_0_4 : mj_fetch 0 4 = some (.aload_n 0, 0, 0) := by decide +kernel
theorem f_0_5 : mj_fetch 0 5 = some (.bipush 6, 0, 0) := by decide +kernel
theorem f_0_7 : mj_fetch 0 7 = some (.newarray .int, 12, 0) := by decide +kernel
theorem f_0_9 : mj_fetch 0 9 = some (.putfield 9, 0, 0) := by decide +kernel
theorem f_0_12 : mj_fetch 0 12 = some (.aload_n 0, 0, 0) := by decide +kernel
theorem f_0_13 : mj_fetch 0 13 = some (.bipush 6, 0, 0) := by decide +kernel
theorem f_0_15 : mj_fetch 0 15 = some (.newarray .int, 12, 0) := by decide +kernel
theorem f_0_17 : mj_fetch 0 17 = some (.putfield 15, 0, 1) := by decide +kernel
theorem f_0_20 : mj_fetch 0 20 = some (.aload_n 0, 0, 0) := by decide +kernel
theorem f_0_21 : mj_fetch 0 21 = some (.bipush 6, 0, 0) := by decide +kernel
theorem f_0_23 : mj_fetch 0 23 = some (.newarray .int, 12, 0) := by decide +kernel
theorem f_0_25 : mj_fetch 0 25 = some (.putfield 18, 0, 2) := by decide +kernel
theorem f_0_28 : mj_fetch 0 28 = some (.aload_n 0, 0, 0) := by decide +kernel
theorem f_0_29 : mj_fetch 0 29 = some (.bipush 6, 0, 0) := by decide +kernel
theorem f_0_31 : mj_fetch 0 31 = some (.newarray .int, 12, 0) := by decide +kernel
theorem f_0_33 : mj_fetch 0 33 = some (.putfield 21, 0, 3) := by decide +kernel
theorem f_0_36 : mj_fetch 0 36 = some (.return_, 0, 0) := by decide +kernel
theorem f_1_0 : mj_fetch 1 0 = some (.aload_n 1, 0, 0) := by decide +kernel
theorem f_1_1 : mj_fetch 1 1 = some (.iload_n 2, 0, 0) := by decide +kernel
theorem f_1_2 : mj_fetch 1 2 = some (.invokevirtual 24, 33, 0) := by decide +kernel
theorem f_1_5 : mj_fetch 1 5 = some (.ifCond .ne 9, 0, 0) := by decide +kernel
theorem f_1_8 : mj_fetch 1 8 = some (.aload_n 0, 0, 0) := by decide +kernel
theorem f_1_9 : mj_fetch 1 9 = some (.aload_n 1, 0, 0) := by decide +kernel
theorem f_1_10 : mj_fetch 1 10 = some (.iload_n 2, 0, 0) := by decide +kernel
theorem f_1_11 : mj_fetch 1 11 = some (.invokevirtual 30, 2, 0) := by decide +kernel
theorem f_1_14 : mj_fetch 1 14 = some (.aload_n 1, 0, 0) := by decide +kernel
theorem f_1_15 : mj_fetch 1 15 = some (.iload_n 2, 0, 0) := by decide +kernel
theorem f_1_16 : mj_fetch 1 16 = some (.invokevirtual 34, 34, 0) := by decide +kernel
theorem f_1_19 : mj_fetch 1 19 = some (.ireturn, 0, 0) := by decide +kernel
theorem f_2_0 : mj_fetch 2 0 = some (.aload_n 0, 0, 0) := by decide +kernel
theorem f_2_1 : mj_fetch 2 1 = some (.getfield 37, 0, 4) := by decide +kernel
theorem f_2_4 : mj_fetch 2 4 = some (.aload_n 1, 0, 0) := by decide +kernel
theorem f_2_5 : mj_fetch 2 5 = some (.if_acmp .ne 12, 0, 0) := by decide +kernel
theorem f_2_8 : mj_fetch 2 8 = some (.aload_n 0, 0, 0) := by decide +kernel
theorem f_2_9 : mj_fetch 2 9 = some (.getfield 41, 0, 5) := by decide +kernel
theorem f_2_12 : mj_fetch 2 12 = some (.iload_n 2, 0, 0) := by decide +kernel
theorem f_2_13 : mj_fetch 2 13 = some (.if_icmp .ne 4, 0, 0) := by decide +kernel
theorem f_2_16 : mj_fetch 2 16 = some (.return_, 0, 0) := by decide +kernel
theorem f_2_17 : mj_fetch 2 17 = some (.aload_n 0, 0, 0) := by decide +kernel
theorem f_2_18 : mj_fetch 2 18 = some (.aload_n 1, 0, 0) := by decide +kernel
theorem f_2_19 : mj_fetch 2 19 = some (.putfield 37, 0, 4) := by decide +kernel
theorem f_2_22 : mj_fetch 2 22 = some (.aload_n 0, 0, 0) := by decide +kernel
theorem f_2_23 : mj_fetch 2 23 = some (.iload_n 2, 0, 0) := by decide +kernel
theorem f_2_24 : mj_fetch 2 24 = some (.putfield 41, 0, 5) := by decide +kernel
theorem f_2_27 : mj_fetch 2 27 = some (.aload_n 0, 0, 0) := by decide +kernel
theorem f_2_28 : mj_fetch 2 28 = some (.invokevirtual 45, 3, 0) := by decide +kernel
theorem f_2_31 : mj_fetch 2 31 = some (.aload_n 0, 0, 0) := by decide +kernel
theorem f_2_32 : mj_fetch 2 32 = some (.aload_n 1, 0, 0) := by decide +kernel
theorem f_2_33 : mj_fetch 2 33 = some (.iload_n 2, 0, 0) := by decide +kernel
theorem f_2_34 : mj_fetch 2 34 = some (.invokevirtual 48, 4, 0) := by decide +kernel
theorem f_2_37 : mj_fetch 2 37 = some (.ifCond .ne 7, 0, 0) := by decide +kernel
theorem f_2_40 : mj_fetch 2 40 = some (.iconst 1, 0, 0) := by decide +kernel
theorem f_2_41 : mj_fetch 2 41 = some (.goto 4, 0, 0) := by decide +kernel
theorem f_2_44 : mj_fetch 2 44 = some (.iconst 0, 0, 0) := by decide +kernel
theorem f_2_45 : mj_fetch 2 45 = some (.istore_n 3, 0, 0) := by decide +kernel
theorem f_2_46 : mj_fetch 2 46 = some (.aload_n 0, 0, 0) := by decide +kernel
theorem f_2_47 : mj_fetch 2 47 = some (.aload_n 1, 0, 0) := by decide +kernel
theorem f_2_48 : mj_fetch 2 48 = some (.iload_n 2, 0, 0) := by decide +kernel
theorem f_2_49 : mj_fetch 2 49 = some (.invokevirtual 52, 5, 0) := by decide +kernel
theorem f_2_52 : mj_fetch 2 52 = some (.aload_n 0, 0, 0) := by decide +kernel
theorem f_2_53 : mj_fetch 2 53 = some (.aload_n 1, 0, 0) := by decide +kernel
theorem f_2_54 : mj_fetch 2 54 = some (.invokevirtual 55, 6, 0) := by decide +kernel
theorem f_2_57 : mj_fetch 2 57 = some (.aload_n 0, 0, 0) := by decide +kernel
theorem f_2_58 : mj_fetch 2 58 = some (.iload_n 3, 0, 0) := by decide +kernel
theorem f_2_59 : mj_fetch 2 59 = some (.ifCond .eq 7, 0, 0) := by decide +kernel
theorem f_2_62 : mj_fetch 2 62 = some (.iconst 1, 0, 0) := by decide +kernel
theorem f_2_63 : mj_fetch 2 63 = some (.goto 8, 0, 0) := by decide +kernel
theorem f_2_66 : mj_fetch 2 66 = some (.aload_n 0, 0, 0) := by decide +kernel
theorem f_2_67 : mj_fetch 2 67 = some (.aload_n 1, 0, 0) := by decide +kernel
theorem f_2_68 : mj_fetch 2 68 = some (.invokevirtual 59, 9, 0) := by decide +kernel
theorem f_2_71 : mj_fetch 2 71 = some (.putfield 63, 0, 7) := by decide +kernel
theorem f_2_74 : mj_fetch 2 74 = some (.aload_n 1, 0, 0) := by decide +kernel
theorem f_2_75 : mj_fetch 2 75 = some (.iload_n 2, 0, 0) := by decide +kernel
theorem f_2_76 : mj_fetch 2 76 = some (.aload_n 0, 0, 0) := by decide +kernel
theorem f_2_77 : mj_fetch 2 77 = some (.getfield 63, 0, 7) := by decide +kernel
theorem f_2_80 : mj_fetch 2 80 = some (.ifCond .ne 7, 0, 0) := by decide +kernel
theorem f_2_83 : mj_fetch 2 83 = some (.iconst 1, 0, 0) := by decide +kernel
theorem f_2_84 : mj_fetch 2 84 = some (.goto 4, 0, 0) := by decide +kernel
theorem f_2_87 : mj_fetch 2 87 = some (.iconst 0, 0, 0) := by decide +kernel
theorem f_2_88 : mj_fetch 2 88 = some (.invokevirtual 66, 35, 0) := by decide +kernel
theorem f_2_91 : mj_fetch 2 91 = some (.return_, 0, 0) := by decide +kernel
theorem f_3_0 : mj_fetch 3 0 = some (.iconst 0, 0, 0) := by decide +kernel
theorem f_3_1 : mj_fetch 3 1 = some (.istore_n 1, 0, 0) := by decide +kernel
theorem f_3_2 : mj_fetch 3 2 = some (.iload_n 1, 0, 0) := by decide +kernel
theorem f_3_3 : mj_fetch 3 3 = some (.bipush 6, 0, 0) := by decide +kernel
theorem f_3_5 : mj_fetch 3 5 = some (.if_icmp .ge 39, 0, 0) := by decide +kernel
theorem f_3_8 : mj_fetch 3 8 = some (.aload_n 0, 0, 0) := by decide +kernel
theorem f_3_9 : mj_fetch 3 9 = some (.getfield 9, 0, 0) := by decide +kernel
theorem f_3_12 : mj_fetch 3 12 = some (.iload_n 1, 0, 0) := by decide +kernel
theorem f_3_13 : mj_fetch 3 13 = some (.bipush 20, 0, 0) := by decide +kernel
theorem f_3_15 : mj_fetch 3 15 = some (.iastore, 0, 0) := by decide +kernel
theorem f_3_16 : mj_fetch 3 16 = some (.aload_n 0, 0, 0) := by decide +kernel
theorem f_3_17 : mj_fetch 3 17 = some (.getfield 15, 0, 1) := by decide +kernel
theorem f_3_20 : mj_fetch 3 20 = some (.iload_n 1, 0, 0) := by decide +kernel
theorem f_3_21 : mj_fetch 3 21 = some (.bipush 20, 0, 0) := by decide +kernel
theorem f_3_23 : mj_fetch 3 23 = some (.iastore, 0, 0) := by decide +kernel
theorem f_3_24 : mj_fetch 3 24 = some (.aload_n 0, 0, 0) := by decide +kernel
theorem f_3_25 : mj_fetch 3 25 = some (.getfield 18, 0, 2) := by decide +kernel
theorem f_3_28 : mj_fetch 3 28 = some (.iload_n 1, 0, 0) := by decide +kernel
theorem f_3_29 : mj_fetch 3 29 = some (.iconst 0, 0, 0) := by decide +kernel
theorem f_3_30 : mj_fetch 3 30 = some (.iastore, 0, 0) := by decide +kernel
theorem f_3_31 : mj_fetch 3 31 = some (.aload_n 0, 0, 0) := by decide +kernel
theorem f_3_32 : mj_fetch 3 32 = some (.getfield 21, 0, 3) := by decide +kernel
theorem f_3_35 : mj_fetch 3 35 = some (.iload_n 1, 0, 0) := by decide +kernel
theorem f_3_36 : mj_fetch 3 36 = some (.iconst 0, 0, 0) := by decide +kernel
theorem f_3_37 : mj_fetch 3 37 = some (.iastore, 0, 0) := by decide +kernel
theorem f_3_38 : mj_fetch 3 38 = some (.iinc 1 1, 0, 0) := by decide +kernel
theorem f_3_41 : mj_fetch 3 41 = some (.goto (-39), 0, 0) := by decide +kernel
theorem f_3_44 : mj_fetch 3 44 = some (.aload_n 0, 0, 0) := by decide +kernel
theorem f_3_45 : mj_fetch 3 45 = some (.iconst 0, 0, 0) := by decide +kernel
theorem f_3_46 : mj_fetch 3 46 = some (.putfield 70, 0, 6) := by decide +kernel
theorem f_3_49 : mj_fetch 3 49 = some (.aload_n 0, 0, 0) := by decide +kernel
theorem f_3_50 : mj_fetch 3 50 = some (.iconst (-1), 0, 0) := by decide +kernel
theorem f_3_51 : mj_fetch 3 51 = some (.putfield 73, 0, 8) := by decide +kernel
theorem f_3_54 : mj_fetch 3 54 = some (.return_, 0, 0) := by decide +kernel
theorem f_4_0 : mj_fetch 4 0 = some (.iload_n 2, 0, 0) := by decide +kernel
theorem f_4_1 : mj_fetch 4 1 = some (.iconst 1, 0, 0) := by decide +kernel
theorem f_4_2 : mj_fetch 4 2 = some (.invokestatic 76, 108, 0) := by decide +kernel
theorem f_4_5 : mj_fetch 4 5 = some (.iconst 1, 0, 0) := by decide +kernel
theorem f_4_6 : mj_fetch 4 6 = some (.iadd, 0, 0) := by decide +kernel
theorem f_4_7 : mj_fetch 4 7 = some (.istore_n 3, 0, 0) := by decide +kernel
theorem f_4_8 : mj_fetch 4 8 = some (.iload_n 2, 0, 0) := by decide +kernel
theorem f_4_9 : mj_fetch 4 9 = some (.iconst 0, 0, 0) := by decide +kernel
theorem f_4_10 : mj_fetch 4 10 = some (.invokestatic 76, 108, 0) := by decide +kernel
theorem f_4_13 : mj_fetch 4 13 = some (.iconst 1, 0, 0) := by decide +kernel
theorem f_4_14 : mj_fetch 4 14 = some (.iadd, 0, 0) := by decide +kernel
theorem f_4_15 : mj_fetch 4 15 = some (.iload_n 3, 0, 0) := by decide +kernel
theorem f_4_16 : mj_fetch 4 16 = some (.imul, 0, 0) := by decide +kernel
theorem f_4_17 : mj_fetch 4 17 = some (.aload_n 1, 0, 0) := by decide +kernel
theorem f_4_18 : mj_fetch 4 18 = some (.getfield 80, 3, 2) := by decide +kernel
theorem f_4_21 : mj_fetch 4 21 = some (.iconst 0, 0, 0) := by decide +kernel
theorem f_4_22 : mj_fetch 4 22 = some (.iaload, 0, 0) := by decide +kernel
theorem f_4_23 : mj_fetch 4 23 = some (.imul, 0, 0) := by decide +kernel
theorem f_4_24 : mj_fetch 4 24 = some (.istore 4, 0, 0) := by decide +kernel
theorem f_4_26 : mj_fetch 4 26 = some (.iload_n 2, 0, 0) := by decide +kernel
theorem f_4_27 : mj_fetch 4 27 = some (.iconst 2, 0, 0) := by decide +kernel
theorem f_4_28 : mj_fetch 4 28 = some (.invokestatic 76, 108, 0) := by decide +kernel
theorem f_4_31 : mj_fetch 4 31 = some (.iconst 1, 0, 0) := by decide +kernel
theorem f_4_32 : mj_fetch 4 32 = some (.iadd, 0, 0) := by decide +kernel
theorem f_4_33 : mj_fetch 4 33 = some (.bipush 20, 0, 0) := by decide +kernel
theorem f_4_35 : mj_fetch 4 35 = some (.imul, 0, 0) := by decide +kernel
theorem f_4_36 : mj_fetch 4 36 = some (.istore 5, 0, 0) := by decide +kernel
theorem f_4_38 : mj_fetch 4 38 = some (.iconst 1, 0, 0) := by decide +kernel
theorem f_4_39 : mj_fetch 4 39 = some (.istore 6, 0, 0) := by decide +kernel
theorem f_4_41 : mj_fetch 4 41 = some (.iconst 0, 0, 0) := by decide +kernel
theorem f_4_42 : mj_fetch 4 42 = some (.istore 7, 0, 0) := by decide +kernel
theorem f_4_44 : mj_fetch 4 44 = some (.aload_n 0, 0, 0) := by decide +kernel
theorem f_4_45 : mj_fetch 4 45 = some (.getfield 70, 0, 6) := by decide +kernel
theorem f_4_48 : mj_fetch 4 48 = some (.bipush 60, 0, 0) := by decide +kernel
theorem f_4_50 : mj_fetch 4 50 = some (.if_icmp .ge 44, 0, 0) := by decide +kernel
theorem f_4_53 : mj_fetch 4 53 = some (.iload 7, 0, 0) := by decide +kernel
theorem f_4_55 : mj_fetch 4 55 = some (.iload 5, 0, 0) := by decide +kernel
theorem f_4_57 : mj_fetch 4 57 = some (.if_icmp .ge 37, 0, 0) := by decide +kernel
theorem f_4_60 : mj_fetch 4 60 = some (.iload 6, 0, 0) := by decide +kernel
theorem f_4_62 : mj_fetch 4 62 = some (.ifCond .eq 19, 0, 0) := by decide +kernel
theorem f_4_65 : mj_fetch 4 65 = some (.aload_n 0, 0, 0) := by decide +kernel
theorem f_4_66 : mj_fetch 4 66 = some (.aload_n 1, 0, 0) := by decide +kernel
theorem f_4_67 : mj_fetch 4 67 = some (.iload 4, 0, 0) := by decide +kernel
theorem f_4_69 : mj_fetch 4 69 = some (.iload_n 3, 0, 0) := by decide +kernel
theorem f_4_70 : mj_fetch 4 70 = some (.invokevirtual 83, 7, 0) := by decide +kernel
theorem f_4_73 : mj_fetch 4 73 = some (.istore 6, 0, 0) := by decide +kernel
theorem f_4_75 : mj_fetch 4 75 = some (.aload_n 0, 0, 0) := by decide +kernel
theorem f_4_76 : mj_fetch 4 76 = some (.invokevirtual 87, 8, 0) := by decide +kernel
theorem f_4_79 : mj_fetch 4 79 = some (.istore 7, 0, 0) := by decide +kernel
theorem f_4_81 : mj_fetch 4 81 = some (.aload_n 0, 0, 0) := by decide +kernel
theorem f_4_82 : mj_fetch 4 82 = some (.dup, 0, 0) := by decide +kernel
theorem f_4_83 : mj_fetch 4 83 = some (.getfield 70, 0, 6) := by decide +kernel
theorem f_4_86 : mj_fetch 4 86 = some (.iconst 1, 0, 0) := by decide +kernel
theorem f_4_87 : mj_fetch 4 87 = some (.iadd, 0, 0) := by decide +kernel
theorem f_4_88 : mj_fetch 4 88 = some (.putfield 70, 0, 6) := by decide +kernel
theorem f_4_91 : mj_fetch 4 91 = some (.goto (-47), 0, 0) := by decide +kernel
theorem f_4_94 : mj_fetch 4 94 = some (.iload 7, 0, 0) := by decide +kernel
theorem f_4_96 : mj_fetch 4 96 = some (.iload 5, 0, 0) := by decide +kernel
theorem f_4_98 : mj_fetch 4 98 = some (.if_icmp .lt 7, 0, 0) := by decide +kernel
theorem f_4_101 : mj_fetch 4 101 = some (.iconst 1, 0, 0) := by decide +kernel
theorem f_4_102 : mj_fetch 4 102 = some (.goto 4, 0, 0) := by decide +kernel
theorem f_4_105 : mj_fetch 4 105 = some (.iconst 0, 0, 0) := by decide +kernel
theorem f_4_106 : mj_fetch 4 106 = some (.ireturn, 0, 0) := by decide +kernel
theorem f_5_0 : mj_fetch 5 0 = some (.iload_n 2, 0, 0) := by decide +kernel
theorem f_5_1 : mj_fetch 5 1 = some (.iconst 1, 0, 0) := by decide +kernel
theorem f_5_2 : mj_fetch 5 2 = some (.invokestatic 76, 108, 0) := by decide +kernel
theorem f_5_5 : mj_fetch 5 5 = some (.iconst 1, 0, 0) := by decide +kernel
theorem f_5_6 : mj_fetch 5 6 = some (.iadd, 0, 0) := by decide +kernel
theorem f_5_7 : mj_fetch 5 7 = some (.istore_n 3, 0, 0) := by decide +kernel
theorem f_5_8 : mj_fetch 5 8 = some (.iconst 0, 0, 0) := by decide +kernel
theorem f_5_9 : mj_fetch 5 9 = some (.istore 4, 0, 0) := by decide +kernel
theorem f_5_11 : mj_fetch 5 11 = some (.iload 4, 0, 0) := by decide +kernel
theorem f_5_13 : mj_fetch 5 13 = some (.iconst 5, 0, 0) := by decide +kernel
theorem f_5_14 : mj_fetch 5 14 = some (.if_icmp .ge 19, 0, 0) := by decide +kernel
theorem f_5_17 : mj_fetch 5 17 = some (.aload_n 0, 0, 0) := by decide +kernel
theorem f_5_18 : mj_fetch 5 18 = some (.aload_n 1, 0, 0) := by decide +kernel
theorem f_5_19 : mj_fetch 5 19 = some (.iconst 0, 0, 0) := by decide +kernel
theorem f_5_20 : mj_fetch 5 20 = some (.iload_n 3, 0, 0) := by decide +kernel
theorem f_5_21 : mj_fetch 5 21 = some (.iconst 2, 0, 0) := by decide +kernel
theorem f_5_22 : mj_fetch 5 22 = some (.imul, 0, 0) := by decide +kernel
theorem f_5_23 : mj_fetch 5 23 = some (.invokevirtual 83, 7, 0) := by decide +kernel
theorem f_5_26 : mj_fetch 5 26 = some (.pop, 0, 0) := by decide +kernel
theorem f_5_27 : mj_fetch 5 27 = some (.iinc 4 1, 0, 0) := by decide +kernel
theorem f_5_30 : mj_fetch 5 30 = some (.goto (-19), 0, 0) := by decide +kernel
theorem f_5_33 : mj_fetch 5 33 = some (.return_, 0, 0) := by decide +kernel
theorem f_6_0 : mj_fetch 6 0 = some (.iconst 0, 0, 0) := by decide +kernel
theorem f_6_1 : mj_fetch 6 1 = some (.istore_n 2, 0, 0) := by decide +kernel
theorem f_6_2 : mj_fetch 6 2 = some (.iload_n 2, 0, 0) := by decide +kernel
theorem f_6_3 : mj_fetch 6 3 = some (.bipush 6, 0, 0) := by decide +kernel
theorem f_6_5 : mj_fetch 6 5 = some (.if_icmp .ge 16, 0, 0) := by decide +kernel
theorem f_6_8 : mj_fetch 6 8 = some (.aload_n 0, 0, 0) := by decide +kernel
theorem f_6_9 : mj_fetch 6 9 = some (.getfield 21, 0, 3) := by decide +kernel
theorem f_6_12 : mj_fetch 6 12 = some (.iload_n 2, 0, 0) := by decide +kernel
theorem f_6_13 : mj_fetch 6 13 = some (.iconst 0, 0, 0) := by decide +kernel
theorem f_6_14 : mj_fetch 6 14 = some (.iastore, 0, 0) := by decide +kernel
theorem f_6_15 : mj_fetch 6 15 = some (.iinc 2 1, 0, 0) := by decide +kernel
theorem f_6_18 : mj_fetch 6 18 = some (.goto (-16), 0, 0) := by decide +kernel
theorem f_6_21 : mj_fetch 6 21 = some (.iconst 1, 0, 0) := by decide +kernel
theorem f_6_22 : mj_fetch 6 22 = some (.istore_n 2, 0, 0) := by decide +kernel
theorem f_6_23 : mj_fetch 6 23 = some (.iconst 0, 0, 0) := by decide +kernel
theorem f_6_24 : mj_fetch 6 24 = some (.istore_n 3, 0, 0) := by decide +kernel
theorem f_6_25 : mj_fetch 6 25 = some (.iload_n 3, 0, 0) := by decide +kernel
theorem f_6_26 : mj_fetch 6 26 = some (.bipush 30, 0, 0) := by decide +kernel
theorem f_6_28 : mj_fetch 6 28 = some (.if_icmp .ge 21, 0, 0) := by decide +kernel
theorem f_6_31 : mj_fetch 6 31 = some (.iload_n 2, 0, 0) := by decide +kernel
theorem f_6_32 : mj_fetch 6 32 = some (.ifCond .eq 17, 0, 0) := by decide +kernel
theorem f_6_35 : mj_fetch 6 35 = some (.aload_n 0, 0, 0) := by decide +kernel
theorem f_6_36 : mj_fetch 6 36 = some (.aload_n 1, 0, 0) := by decide +kernel
theorem f_6_37 : mj_fetch 6 37 = some (.iconst 0, 0, 0) := by decide +kernel
theorem f_6_38 : mj_fetch 6 38 = some (.iconst 0, 0, 0) := by decide +kernel
theorem f_6_39 : mj_fetch 6 39 = some (.invokevirtual 83, 7, 0) := by decide +kernel
theorem f_6_42 : mj_fetch 6 42 = some (.istore_n 2, 0, 0) := by decide +kernel
theorem f_6_43 : mj_fetch 6 43 = some (.iinc 3 1, 0, 0) := by decide +kernel
theorem f_6_46 : mj_fetch 6 46 = some (.goto (-21), 0, 0) := by decide +kernel
theorem f_6_49 : mj_fetch 6 49 = some (.return_, 0, 0) := by decide +kernel
theorem f_7_0 : mj_fetch 7 0 = some (.aload_n 1, 0, 0) := by decide +kernel
theorem f_7_1 : mj_fetch 7 1 = some (.getfield 80, 3, 2) := by decide +kernel
theorem f_7_4 : mj_fetch 7 4 = some (.bipush 8, 0, 0) := by decide +kernel
theorem f_7_6 : mj_fetch 7 6 = some (.iaload, 0, 0) := by decide +kernel
theorem f_7_7 : mj_fetch 7 7 = some (.istore 4, 0, 0) := by decide +kernel
theorem f_7_9 : mj_fetch 7 9 = some (.aload_n 1, 0, 0) := by decide +kernel
theorem f_7_10 : mj_fetch 7 10 = some (.getfield 80, 3, 2) := by decide +kernel
theorem f_7_13 : mj_fetch 7 13 = some (.iconst 2, 0, 0) := by decide +kernel
theorem f_7_14 : mj_fetch 7 14 = some (.iaload, 0, 0) := by decide +kernel
theorem f_7_15 : mj_fetch 7 15 = some (.istore 5, 0, 0) := by decide +kernel
theorem f_7_17 : mj_fetch 7 17 = some (.aload_n 1, 0, 0) := by decide +kernel
theorem f_7_18 : mj_fetch 7 18 = some (.getfield 80, 3, 2) := by decide +kernel
theorem f_7_21 : mj_fetch 7 21 = some (.iconst 3, 0, 0) := by decide +kernel
theorem f_7_22 : mj_fetch 7 22 = some (.iaload, 0, 0) := by decide +kernel
theorem f_7_23 : mj_fetch 7 23 = some (.istore 6, 0, 0) := by decide +kernel
theorem f_7_25 : mj_fetch 7 25 = some (.aload_n 1, 0, 0) := by decide +kernel
theorem f_7_26 : mj_fetch 7 26 = some (.getfield 80, 3, 2) := by decide +kernel
theorem f_7_29 : mj_fetch 7 29 = some (.iconst 1, 0, 0) := by decide +kernel
theorem f_7_30 : mj_fetch 7 30 = some (.iaload, 0, 0) := by decide +kernel
theorem f_7_31 : mj_fetch 7 31 = some (.istore 7, 0, 0) := by decide +kernel
theorem f_7_33 : mj_fetch 7 33 = some (.aload_n 1, 0, 0) := by decide +kernel
theorem f_7_34 : mj_fetch 7 34 = some (.getfield 80, 3, 2) := by decide +kernel
theorem f_7_37 : mj_fetch 7 37 = some (.iconst 4, 0, 0) := by decide +kernel
theorem f_7_38 : mj_fetch 7 38 = some (.iaload, 0, 0) := by decide +kernel
theorem f_7_39 : mj_fetch 7 39 = some (.istore 8, 0, 0) := by decide +kernel
theorem f_7_41 : mj_fetch 7 41 = some (.iload 7, 0, 0) := by decide +kernel
theorem f_7_43 : mj_fetch 7 43 = some (.iconst 1, 0, 0) := by decide +kernel
theorem f_7_44 : mj_fetch 7 44 = some (.if_icmp .lt 9, 0, 0) := by decide +kernel
theorem f_7_47 : mj_fetch 7 47 = some (.iload 8, 0, 0) := by decide +kernel
theorem f_7_49 : mj_fetch 7 49 = some (.iconst 1, 0, 0) := by decide +kernel
theorem f_7_50 : mj_fetch 7 50 = some (.if_icmp .ge 5, 0, 0) := by decide +kernel
theorem f_7_53 : mj_fetch 7 53 = some (.iconst 0, 0, 0) := by decide +kernel
theorem f_7_54 : mj_fetch 7 54 = some (.ireturn, 0, 0) := by decide +kernel
theorem f_7_55 : mj_fetch 7 55 = some (.iconst 0, 0, 0) := by decide +kernel
theorem f_7_56 : mj_fetch 7 56 = some (.istore 9, 0, 0) := by decide +kernel
theorem f_7_58 : mj_fetch 7 58 = some (.iconst 0, 0, 0) := by decide +kernel
theorem f_7_59 : mj_fetch 7 59 = some (.istore 10, 0, 0) := by decide +kernel
theorem f_7_61 : mj_fetch 7 61 = some (.iconst 0, 0, 0) := by decide +kernel
theorem f_7_62 : mj_fetch 7 62 = some (.istore 11, 0, 0) := by decide +kernel
theorem f_7_64 : mj_fetch 7 64 = some (.iload 11, 0, 0) := by decide +kernel
theorem f_7_66 : mj_fetch 7 66 = some (.iload 4, 0, 0) := by decide +kernel
theorem f_7_68 : mj_fetch 7 68 = some (.if_icmp .ge 274, 0, 0) := by decide +kernel
theorem f_7_71 : mj_fetch 7 71 = some (.aload_n 0, 0, 0) := by decide +kernel
theorem f_7_72 : mj_fetch 7 72 = some (.getfield 9, 0, 0) := by decide +kernel
theorem f_7_75 : mj_fetch 7 75 = some (.iload 11, 0, 0) := by decide +kernel
theorem f_7_77 : mj_fetch 7 77 = some (.iaload, 0, 0) := by decide +kernel
theorem f_7_78 : mj_fetch 7 78 = some (.istore 12, 0, 0) := by decide +kernel
theorem f_7_80 : mj_fetch 7 80 = some (.iload 11, 0, 0) := by decide +kernel
theorem f_7_82 : mj_fetch 7 82 = some (.iconst 1, 0, 0) := by decide +kernel
theorem f_7_83 : mj_fetch 7 83 = some (.iadd, 0, 0) := by decide +kernel
theorem f_7_84 : mj_fetch 7 84 = some (.iload 4, 0, 0) := by decide +kernel
theorem f_7_86 : mj_fetch 7 86 = some (.if_icmp .ge 15, 0, 0) := by decide +kernel
theorem f_7_89 : mj_fetch 7 89 = some (.aload_n 0, 0, 0) := by decide +kernel
theorem f_7_90 : mj_fetch 7 90 = some (.getfield 9, 0, 0) := by decide +kernel
theorem f_7_93 : mj_fetch 7 93 = some (.iload 11, 0, 0) := by decide +kernel
theorem f_7_95 : mj_fetch 7 95 = some (.iconst 1, 0, 0) := by decide +kernel
theorem f_7_96 : mj_fetch 7 96 = some (.iadd, 0, 0) := by decide +kernel
theorem f_7_97 : mj_fetch 7 97 = some (.iaload, 0, 0) := by decide +kernel
theorem f_7_98 : mj_fetch 7 98 = some (.goto 5, 0, 0) := by decide +kernel
theorem f_7_101 : mj_fetch 7 101 = some (.bipush 20, 0, 0) := by decide +kernel
theorem f_7_103 : mj_fetch 7 103 = some (.istore 13, 0, 0) := by decide +kernel
theorem f_7_105 : mj_fetch 7 105 = some (.iload 12, 0, 0) := by decide +kernel
theorem f_7_107 : mj_fetch 7 107 = some (.iload 13, 0, 0) := by decide +kernel
theorem f_7_109 : mj_fetch 7 109 = some (.isub, 0, 0) := by decide +kernel
theorem f_7_110 : mj_fetch 7 110 = some (.iload 5, 0, 0) := by decide +kernel
theorem f_7_112 : mj_fetch 7 112 = some (.imul, 0, 0) := by decide +kernel
theorem f_7_113 : mj_fetch 7 113 = some (.sipush 1000, 0, 0) := by decide +kernel
theorem f_7_116 : mj_fetch 7 116 = some (.idiv, 0, 0) := by decide +kernel
theorem f_7_117 : mj_fetch 7 117 = some (.istore 14, 0, 0) := by decide +kernel
theorem f_7_119 : mj_fetch 7 119 = some (.iload_n 2, 0, 0) := by decide +kernel
theorem f_7_120 : mj_fetch 7 120 = some (.iload 11, 0, 0) := by decide +kernel
theorem f_7_122 : mj_fetch 7 122 = some (.iconst 1, 0, 0) := by decide +kernel
theorem f_7_123 : mj_fetch 7 123 = some (.iadd, 0, 0) := by decide +kernel
theorem f_7_124 : mj_fetch 7 124 = some (.imul, 0, 0) := by decide +kernel
theorem f_7_125 : mj_fetch 7 125 = some (.iload 7, 0, 0) := by decide +kernel
theorem f_7_127 : mj_fetch 7 127 = some (.idiv, 0, 0) := by decide +kernel
theorem f_7_128 : mj_fetch 7 128 = some (.istore 15, 0, 0) := by decide +kernel
theorem f_7_130 : mj_fetch 7 130 = some (.iload 12, 0, 0) := by decide +kernel
theorem f_7_132 : mj_fetch 7 132 = some (.iload 6, 0, 0) := by decide +kernel
theorem f_7_134 : mj_fetch 7 134 = some (.if_icmp .lt 80, 0, 0) := by decide +kernel
theorem f_7_137 : mj_fetch 7 137 = some (.iload 15, 0, 0) := by decide +kernel
theorem f_7_139 : mj_fetch 7 139 = some (.iconst 2, 0, 0) := by decide +kernel
theorem f_7_140 : mj_fetch 7 140 = some (.idiv, 0, 0) := by decide +kernel
theorem f_7_141 : mj_fetch 7 141 = some (.istore 15, 0, 0) := by decide +kernel
theorem f_7_143 : mj_fetch 7 143 = some (.aload_n 0, 0, 0) := by decide +kernel
theorem f_7_144 : mj_fetch 7 144 = some (.getfield 18, 0, 2) := by decide +kernel
theorem f_7_147 : mj_fetch 7 147 = some (.iload 11, 0, 0) := by decide +kernel
theorem f_7_149 : mj_fetch 7 149 = some (.iaload, 0, 0) := by decide +kernel
theorem f_7_150 : mj_fetch 7 150 = some (.iload_n 3, 0, 0) := by decide +kernel
theorem f_7_151 : mj_fetch 7 151 = some (.iload 12, 0, 0) := by decide +kernel
theorem f_7_153 : mj_fetch 7 153 = some (.iload 6, 0, 0) := by decide +kernel
theorem f_7_155 : mj_fetch 7 155 = some (.isub, 0, 0) := by decide +kernel
theorem f_7_156 : mj_fetch 7 156 = some (.iconst 1, 0, 0) := by decide +kernel
theorem f_7_157 : mj_fetch 7 157 = some (.iadd, 0, 0) := by decide +kernel
theorem f_7_158 : mj_fetch 7 158 = some (.imul, 0, 0) := by decide +kernel
theorem f_7_159 : mj_fetch 7 159 = some (.iload 8, 0, 0) := by decide +kernel
theorem f_7_161 : mj_fetch 7 161 = some (.idiv, 0, 0) := by decide +kernel
theorem f_7_162 : mj_fetch 7 162 = some (.iadd, 0, 0) := by decide +kernel
theorem f_7_163 : mj_fetch 7 163 = some (.istore 16, 0, 0) := by decide +kernel
theorem f_7_165 : mj_fetch 7 165 = some (.iload 16, 0, 0) := by decide +kernel
theorem f_7_167 : mj_fetch 7 167 = some (.ldc 91, 100000, 0) := by decide +kernel
theorem f_7_169 : mj_fetch 7 169 = some (.if_icmp .le 8, 0, 0) := by decide +kernel
theorem f_7_172 : mj_fetch 7 172 = some (.ldc 91, 100000, 0) := by decide +kernel
theorem f_7_174 : mj_fetch 7 174 = some (.goto 5, 0, 0) := by decide +kernel
theorem f_7_177 : mj_fetch 7 177 = some (.iload 16, 0, 0) := by decide +kernel
theorem f_7_179 : mj_fetch 7 179 = some (.istore 16, 0, 0) := by decide +kernel
theorem f_7_181 : mj_fetch 7 181 = some (.iload 10, 0, 0) := by decide +kernel
theorem f_7_183 : mj_fetch 7 183 = some (.ifCond .ne 15, 0, 0) := by decide +kernel
theorem f_7_186 : mj_fetch 7 186 = some (.iload 16, 0, 0) := by decide +kernel
theorem f_7_188 : mj_fetch 7 188 = some (.aload_n 0, 0, 0) := by decide +kernel
theorem f_7_189 : mj_fetch 7 189 = some (.getfield 18, 0, 2) := by decide +kernel
theorem f_7_192 : mj_fetch 7 192 = some (.iload 11, 0, 0) := by decide +kernel
theorem f_7_194 : mj_fetch 7 194 = some (.iaload, 0, 0) := by decide +kernel
theorem f_7_195 : mj_fetch 7 195 = some (.if_icmp .eq 7, 0, 0) := by decide +kernel
theorem f_7_198 : mj_fetch 7 198 = some (.iconst 1, 0, 0) := by decide +kernel
theorem f_7_199 : mj_fetch 7 199 = some (.goto 4, 0, 0) := by decide +kernel
theorem f_7_202 : mj_fetch 7 202 = some (.iconst 0, 0, 0) := by decide +kernel
theorem f_7_203 : mj_fetch 7 203 = some (.istore 10, 0, 0) := by decide +kernel
theorem f_7_205 : mj_fetch 7 205 = some (.aload_n 0, 0, 0) := by decide +kernel
theorem f_7_206 : mj_fetch 7 206 = some (.getfield 18, 0, 2) := by decide +kernel
theorem f_7_209 : mj_fetch 7 209 = some (.iload 11, 0, 0) := by decide +kernel
theorem f_7_211 : mj_fetch 7 211 = some (.iload 16, 0, 0) := by decide +kernel
theorem f_7_213 : mj_fetch 7 213 = some (.iastore, 0, 0) := by decide +kernel
theorem f_7_214 : mj_fetch 7 214 = some (.iload 12, 0, 0) := by decide +kernel
theorem f_7_216 : mj_fetch 7 216 = some (.iload 9, 0, 0) := by decide +kernel
theorem f_7_218 : mj_fetch 7 218 = some (.iadd, 0, 0) := by decide +kernel
theorem f_7_219 : mj_fetch 7 219 = some (.iload 14, 0, 0) := by decide +kernel
theorem f_7_221 : mj_fetch 7 221 = some (.isub, 0, 0) := by decide +kernel
theorem f_7_222 : mj_fetch 7 222 = some (.iload 15, 0, 0) := by decide +kernel
theorem f_7_224 : mj_fetch 7 224 = some (.iadd, 0, 0) := by decide +kernel
theorem f_7_225 : mj_fetch 7 225 = some (.istore 16, 0, 0) := by decide +kernel
theorem f_7_227 : mj_fetch 7 227 = some (.iload 16, 0, 0) := by decide +kernel
theorem f_7_229 : mj_fetch 7 229 = some (.sipush 5000, 0, 0) := by decide +kernel
theorem f_7_232 : mj_fetch 7 232 = some (.if_icmp .le 9, 0, 0) := by decide +kernel
theorem f_7_235 : mj_fetch 7 235 = some (.sipush 5000, 0, 0) := by decide +kernel
theorem f_7_238 : mj_fetch 7 238 = some (.goto 5, 0, 0) := by decide +kernel
theorem f_7_241 : mj_fetch 7 241 = some (.iload 16, 0, 0) := by decide +kernel
theorem f_7_243 : mj_fetch 7 243 = some (.istore 16, 0, 0) := by decide +kernel
theorem f_7_245 : mj_fetch 7 245 = some (.iload 16, 0, 0) := by decide +kernel
theorem f_7_247 : mj_fetch 7 247 = some (.iload 12, 0, 0) := by decide +kernel
theorem f_7_249 : mj_fetch 7 249 = some (.if_icmp .eq 83, 0, 0) := by decide +kernel
theorem f_7_252 : mj_fetch 7 252 = some (.iconst 1, 0, 0) := by decide +kernel
theorem f_7_253 : mj_fetch 7 253 = some (.istore 10, 0, 0) := by decide +kernel
theorem f_7_255 : mj_fetch 7 255 = some (.aload_n 0, 0, 0) := by decide +kernel
theorem f_7_256 : mj_fetch 7 256 = some (.getfield 9, 0, 0) := by decide +kernel
theorem f_7_259 : mj_fetch 7 259 = some (.iload 11, 0, 0) := by decide +kernel
theorem f_7_261 : mj_fetch 7 261 = some (.iload 16, 0, 0) := by decide +kernel
theorem f_7_263 : mj_fetch 7 263 = some (.iastore, 0, 0) := by decide +kernel
theorem f_7_264 : mj_fetch 7 264 = some (.aload_n 0, 0, 0) := by decide +kernel
theorem f_7_265 : mj_fetch 7 265 = some (.getfield 15, 0, 1) := by decide +kernel
theorem f_7_268 : mj_fetch 7 268 = some (.iload 11, 0, 0) := by decide +kernel
theorem f_7_270 : mj_fetch 7 270 = some (.iload 16, 0, 0) := by decide +kernel
theorem f_7_272 : mj_fetch 7 272 = some (.aload_n 0, 0, 0) := by decide +kernel
theorem f_7_273 : mj_fetch 7 273 = some (.getfield 15, 0, 1) := by decide +kernel
theorem f_7_276 : mj_fetch 7 276 = some (.iload 11, 0, 0) := by decide +kernel
theorem f_7_278 : mj_fetch 7 278 = some (.iaload, 0, 0) := by decide +kernel
theorem f_7_279 : mj_fetch 7 279 = some (.if_icmp .le 8, 0, 0) := by decide +kernel
theorem f_7_282 : mj_fetch 7 282 = some (.iload 16, 0, 0) := by decide +kernel
theorem f_7_284 : mj_fetch 7 284 = some (.goto 10, 0, 0) := by decide +kernel
theorem f_7_287 : mj_fetch 7 287 = some (.aload_n 0, 0, 0) := by decide +kernel
theorem f_7_288 : mj_fetch 7 288 = some (.getfield 15, 0, 1) := by decide +kernel
theorem f_7_291 : mj_fetch 7 291 = some (.iload 11, 0, 0) := by decide +kernel
theorem f_7_293 : mj_fetch 7 293 = some (.iaload, 0, 0) := by decide +kernel
theorem f_7_294 : mj_fetch 7 294 = some (.iastore, 0, 0) := by decide +kernel
theorem f_7_295 : mj_fetch 7 295 = some (.aload_n 0, 0, 0) := by decide +kernel
theorem f_7_296 : mj_fetch 7 296 = some (.getfield 21, 0, 3) := by decide +kernel
theorem f_7_299 : mj_fetch 7 299 = some (.iload 11, 0, 0) := by decide +kernel
theorem f_7_301 : mj_fetch 7 301 = some (.iload 12, 0, 0) := by decide +kernel
theorem f_7_303 : mj_fetch 7 303 = some (.iload 16, 0, 0) := by decide +kernel
theorem f_7_305 : mj_fetch 7 305 = some (.isub, 0, 0) := by decide +kernel
theorem f_7_306 : mj_fetch 7 306 = some (.aload_n 0, 0, 0) := by decide +kernel
theorem f_7_307 : mj_fetch 7 307 = some (.getfield 21, 0, 3) := by decide +kernel
theorem f_7_310 : mj_fetch 7 310 = some (.iload 11, 0, 0) := by decide +kernel
theorem f_7_312 : mj_fetch 7 312 = some (.iaload, 0, 0) := by decide +kernel
theorem f_7_313 : mj_fetch 7 313 = some (.if_icmp .le 11, 0, 0) := by decide +kernel
theorem f_7_316 : mj_fetch 7 316 = some (.iload 12, 0, 0) := by decide +kernel
theorem f_7_318 : mj_fetch 7 318 = some (.iload 16, 0, 0) := by decide +kernel
theorem f_7_320 : mj_fetch 7 320 = some (.isub, 0, 0) := by decide +kernel
theorem f_7_321 : mj_fetch 7 321 = some (.goto 10, 0, 0) := by decide +kernel
theorem f_7_324 : mj_fetch 7 324 = some (.aload_n 0, 0, 0) := by decide +kernel
theorem f_7_325 : mj_fetch 7 325 = some (.getfield 21, 0, 3) := by decide +kernel
theorem f_7_328 : mj_fetch 7 328 = some (.iload 11, 0, 0) := by decide +kernel
theorem f_7_330 : mj_fetch 7 330 = some (.iaload, 0, 0) := by decide +kernel
theorem f_7_331 : mj_fetch 7 331 = some (.iastore, 0, 0) := by decide +kernel
theorem f_7_332 : mj_fetch 7 332 = some (.iload 14, 0, 0) := by decide +kernel
theorem f_7_334 : mj_fetch 7 334 = some (.istore 9, 0, 0) := by decide +kernel
theorem f_7_336 : mj_fetch 7 336 = some (.iinc 11 1, 0, 0) := by decide +kernel
theorem f_7_339 : mj_fetch 7 339 = some (.goto (-275), 0, 0) := by decide +kernel
theorem f_7_342 : mj_fetch 7 342 = some (.iload 10, 0, 0) := by decide +kernel
theorem f_7_344 : mj_fetch 7 344 = some (.ireturn, 0, 0) := by decide +kernel
theorem f_8_0 : mj_fetch 8 0 = some (.iconst 0, 0, 0) := by decide +kernel
theorem f_8_1 : mj_fetch 8 1 = some (.istore_n 1, 0, 0) := by decide +kernel
theorem f_8_2 : mj_fetch 8 2 = some (.iconst 0, 0, 0) := by decide +kernel
theorem f_8_3 : mj_fetch 8 3 = some (.istore_n 2, 0, 0) := by decide +kernel
theorem f_8_4 : mj_fetch 8 4 = some (.iload_n 2, 0, 0) := by decide +kernel
theorem f_8_5 : mj_fetch 8 5 = some (.bipush 6, 0, 0) := by decide +kernel
theorem f_8_7 : mj_fetch 8 7 = some (.if_icmp .ge 18, 0, 0) := by decide +kernel
theorem f_8_10 : mj_fetch 8 10 = some (.iload_n 1, 0, 0) := by decide +kernel
theorem f_8_11 : mj_fetch 8 11 = some (.aload_n 0, 0, 0) := by decide +kernel
theorem f_8_12 : mj_fetch 8 12 = some (.getfield 18, 0, 2) := by decide +kernel
theorem f_8_15 : mj_fetch 8 15 = some (.iload_n 2, 0, 0) := by decide +kernel
theorem f_8_16 : mj_fetch 8 16 = some (.iaload, 0, 0) := by decide +kernel
theorem f_8_17 : mj_fetch 8 17 = some (.iadd, 0, 0) := by decide +kernel
theorem f_8_18 : mj_fetch 8 18 = some (.istore_n 1, 0, 0) := by decide +kernel
theorem f_8_19 : mj_fetch 8 19 = some (.iinc 2 1, 0, 0) := by decide +kernel
theorem f_8_22 : mj_fetch 8 22 = some (.goto (-18), 0, 0) := by decide +kernel
theorem f_8_25 : mj_fetch 8 25 = some (.iload_n 1, 0, 0) := by decide +kernel
theorem f_8_26 : mj_fetch 8 26 = some (.ireturn, 0, 0) := by decide +kernel
theorem f_9_0 : mj_fetch 9 0 = some (.iconst 0, 0, 0) := by decide +kernel
theorem f_9_1 : mj_fetch 9 1 = some (.istore_n 2, 0, 0) := by decide +kernel
theorem f_9_2 : mj_fetch 9 2 = some (.iload_n 2, 0, 0) := by decide +kernel
theorem f_9_3 : mj_fetch 9 3 = some (.aload_n 1, 0, 0) := by decide +kernel
theorem f_9_4 : mj_fetch 9 4 = some (.getfield 80, 3, 2) := by decide +kernel
theorem f_9_7 : mj_fetch 9 7 = some (.bipush 8, 0, 0) := by decide +kernel
theorem f_9_9 : mj_fetch 9 9 = some (.iaload, 0, 0) := by decide +kernel
theorem f_9_10 : mj_fetch 9 10 = some (.if_icmp .ge 27, 0, 0) := by decide +kernel
theorem f_9_13 : mj_fetch 9 13 = some (.aload_n 0, 0, 0) := by decide +kernel
theorem f_9_14 : mj_fetch 9 14 = some (.aload_n 1, 0, 0) := by decide +kernel
theorem f_9_15 : mj_fetch 9 15 = some (.iload_n 2, 0, 0) := by decide +kernel
theorem f_9_16 : mj_fetch 9 16 = some (.invokevirtual 92, 10, 0) := by decide +kernel
theorem f_9_19 : mj_fetch 9 19 = some (.istore_n 3, 0, 0) := by decide +kernel
theorem f_9_20 : mj_fetch 9 20 = some (.iload_n 3, 0, 0) := by decide +kernel
theorem f_9_21 : mj_fetch 9 21 = some (.ifCond .eq 10, 0, 0) := by decide +kernel
theorem f_9_24 : mj_fetch 9 24 = some (.aload_n 0, 0, 0) := by decide +kernel
theorem f_9_25 : mj_fetch 9 25 = some (.iload_n 2, 0, 0) := by decide +kernel
theorem f_9_26 : mj_fetch 9 26 = some (.putfield 73, 0, 8) := by decide +kernel
theorem f_9_29 : mj_fetch 9 29 = some (.iload_n 3, 0, 0) := by decide +kernel
theorem f_9_30 : mj_fetch 9 30 = some (.ireturn, 0, 0) := by decide +kernel
theorem f_9_31 : mj_fetch 9 31 = some (.iinc 2 1, 0, 0) := by decide +kernel
theorem f_9_34 : mj_fetch 9 34 = some (.goto (-32), 0, 0) := by decide +kernel
theorem f_9_37 : mj_fetch 9 37 = some (.iconst 0, 0, 0) := by decide +kernel
theorem f_9_38 : mj_fetch 9 38 = some (.ireturn, 0, 0) := by decide +kernel
theorem f_10_0 : mj_fetch 10 0 = some (.aload_n 0, 0, 0) := by decide +kernel
theorem f_10_1 : mj_fetch 10 1 = some (.getfield 15, 0, 1) := by decide +kernel
theorem f_10_4 : mj_fetch 10 4 = some (.iload_n 2, 0, 0) := by decide +kernel
theorem f_10_5 : mj_fetch 10 5 = some (.iaload, 0, 0) := by decide +kernel
theorem f_10_6 : mj_fetch 10 6 = some (.aload_n 1, 0, 0) := by decide +kernel
theorem f_10_7 : mj_fetch 10 7 = some (.getfield 80, 3, 2) := by decide +kernel
theorem f_10_10 : mj_fetch 10 10 = some (.iconst 5, 0, 0) := by decide +kernel
theorem f_10_11 : mj_fetch 10 11 = some (.iaload, 0, 0) := by decide +kernel
theorem f_10_12 : mj_fetch 10 12 = some (.if_icmp .ge 5, 0, 0) := by decide +kernel
theorem f_10_15 : mj_fetch 10 15 = some (.iconst 2, 0, 0) := by decide +kernel
theorem f_10_16 : mj_fetch 10 16 = some (.ireturn, 0, 0) := by decide +kernel
theorem f_10_17 : mj_fetch 10 17 = some (.aload_n 0, 0, 0) := by decide +kernel
theorem f_10_18 : mj_fetch 10 18 = some (.getfield 18, 0, 2) := by decide +kernel
theorem f_10_21 : mj_fetch 10 21 = some (.iload_n 2, 0, 0) := by decide +kernel
theorem f_10_22 : mj_fetch 10 22 = some (.iaload, 0, 0) := by decide +kernel
theorem f_10_23 : mj_fetch 10 23 = some (.aload_n 1, 0, 0) := by decide +kernel
theorem f_10_24 : mj_fetch 10 24 = some (.getfield 80, 3, 2) := by decide +kernel
theorem f_10_27 : mj_fetch 10 27 = some (.bipush 6, 0, 0) := by decide +kernel
theorem f_10_29 : mj_fetch 10 29 = some (.iaload, 0, 0) := by decide +kernel
theorem f_10_30 : mj_fetch 10 30 = some (.if_icmp .ge 5, 0, 0) := by decide +kernel
theorem f_10_33 : mj_fetch 10 33 = some (.iconst 3, 0, 0) := by decide +kernel
theorem f_10_34 : mj_fetch 10 34 = some (.ireturn, 0, 0) := by decide +kernel
theorem f_10_35 : mj_fetch 10 35 = some (.aload_n 0, 0, 0) := by decide +kernel
theorem f_10_36 : mj_fetch 10 36 = some (.getfield 21, 0, 3) := by decide +kernel
theorem f_10_39 : mj_fetch 10 39 = some (.iload_n 2, 0, 0) := by decide +kernel
theorem f_10_40 : mj_fetch 10 40 = some (.iaload, 0, 0) := by decide +kernel
theorem f_10_41 : mj_fetch 10 41 = some (.aload_n 1, 0, 0) := by decide +kernel
theorem f_10_42 : mj_fetch 10 42 = some (.getfield 80, 3, 2) := by decide +kernel
theorem f_10_45 : mj_fetch 10 45 = some (.bipush 7, 0, 0) := by decide +kernel
theorem f_10_47 : mj_fetch 10 47 = some (.iaload, 0, 0) := by decide +kernel
theorem f_10_48 : mj_fetch 10 48 = some (.if_icmp .le 7, 0, 0) := by decide +kernel
theorem f_10_51 : mj_fetch 10 51 = some (.iconst 4, 0, 0) := by decide +kernel
theorem f_10_52 : mj_fetch 10 52 = some (.goto 4, 0, 0) := by decide +kernel
theorem f_10_55 : mj_fetch 10 55 = some (.iconst 0, 0, 0) := by decide +kernel
theorem f_10_56 : mj_fetch 10 56 = some (.ireturn, 0, 0) := by decide +kernel
theorem f_11_0 : mj_fetch 11 0 = some (.aload_n 0, 0, 0) := by decide +kernel
theorem f_11_1 : mj_fetch 11 1 = some (.invokespecial 3, 0, 1) := by decide +kernel
theorem f_11_4 : mj_fetch 11 4 = some (.aload_n 0, 0, 0) := by decide +kernel
theorem f_11_5 : mj_fetch 11 5 = some (.bipush 60, 0, 0) := by decide +kernel
theorem f_11_7 : mj_fetch 11 7 = some (.anewarray 11, 16, 0) := by decide +kernel
theorem f_11_10 : mj_fetch 11 10 = some (.putfield 13, 1, 0) := by decide +kernel
theorem f_11_13 : mj_fetch 11 13 = some (.aload_n 0, 0, 0) := by decide +kernel
theorem f_11_14 : mj_fetch 11 14 = some (.bipush 60, 0, 0) := by decide +kernel
theorem f_11_16 : mj_fetch 11 16 = some (.newarray .int, 12, 0) := by decide +kernel
theorem f_11_18 : mj_fetch 11 18 = some (.putfield 17, 1, 1) := by decide +kernel
theorem f_11_21 : mj_fetch 11 21 = some (.aload_n 0, 0, 0) := by decide +kernel
theorem f_11_22 : mj_fetch 11 22 = some (.bipush 100, 0, 0) := by decide +kernel
theorem f_11_24 : mj_fetch 11 24 = some (.newarray .int, 12, 0) := by decide +kernel
theorem f_11_26 : mj_fetch 11 26 = some (.putfield 21, 1, 2) := by decide +kernel
theorem f_11_29 : mj_fetch 11 29 = some (.aload_n 0, 0, 0) := by decide +kernel
theorem f_11_30 : mj_fetch 11 30 = some (.bipush 100, 0, 0) := by decide +kernel
theorem f_11_32 : mj_fetch 11 32 = some (.newarray .int, 12, 0) := by decide +kernel
theorem f_11_34 : mj_fetch 11 34 = some (.putfield 24, 1, 3) := by decide +kernel
theorem f_11_37 : mj_fetch 11 37 = some (.aload_n 0, 0, 0) := by decide +kernel
theorem f_11_38 : mj_fetch 11 38 = some (.bipush 100, 0, 0) := by decide +kernel
theorem f_11_40 : mj_fetch 11 40 = some (.newarray .int, 12, 0) := by decide +kernel
theorem f_11_42 : mj_fetch 11 42 = some (.putfield 27, 1, 4) := by decide +kernel
theorem f_11_45 : mj_fetch 11 45 = some (.return_, 0, 0) := by decide +kernel
theorem f_12_0 : mj_fetch 12 0 = some (.aload_n 0, 0, 0) := by decide +kernel
theorem f_12_1 : mj_fetch 12 1 = some (.getfield 30, 1, 5) := by decide +kernel
theorem f_12_4 : mj_fetch 12 4 = some (.bipush 60, 0, 0) := by decide +kernel
theorem f_12_6 : mj_fetch 12 6 = some (.if_icmp .ne 5, 0, 0) := by decide +kernel
theorem f_12_9 : mj_fetch 12 9 = some (.iconst (-1), 0, 0) := by decide +kernel
theorem f_12_10 : mj_fetch 12 10 = some (.ireturn, 0, 0) := by decide +kernel
theorem f_12_11 : mj_fetch 12 11 = some (.aload_n 0, 0, 0) := by decide +kernel
theorem f_12_12 : mj_fetch 12 12 = some (.getfield 13, 1, 0) := by decide +kernel
theorem f_12_15 : mj_fetch 12 15 = some (.aload_n 0, 0, 0) := by decide +kernel
theorem f_12_16 : mj_fetch 12 16 = some (.getfield 30, 1, 5) := by decide +kernel
theorem f_12_19 : mj_fetch 12 19 = some (.new 11, 4, 0) := by decide +kernel
theorem f_12_22 : mj_fetch 12 22 = some (.dup, 0, 0) := by decide +kernel
theorem f_12_23 : mj_fetch 12 23 = some (.aload_n 1, 0, 0) := by decide +kernel
theorem f_12_24 : mj_fetch 12 24 = some (.iload_n 2, 0, 0) := by decide +kernel
theorem f_12_25 : mj_fetch 12 25 = some (.iload_n 3, 0, 0) := by decide +kernel
theorem f_12_26 : mj_fetch 12 26 = some (.invokespecial 34, 36, 0) := by decide +kernel
theorem f_12_29 : mj_fetch 12 29 = some (.aastore, 0, 0) := by decide +kernel
theorem f_12_30 : mj_fetch 12 30 = some (.aload_n 0, 0, 0) := by decide +kernel
theorem f_12_31 : mj_fetch 12 31 = some (.dup, 0, 0) := by decide +kernel
theorem f_12_32 : mj_fetch 12 32 = some (.getfield 30, 1, 5) := by decide +kernel
theorem f_12_35 : mj_fetch 12 35 = some (.iconst 1, 0, 0) := by decide +kernel
theorem f_12_36 : mj_fetch 12 36 = some (.iadd, 0, 0) := by decide +kernel
theorem f_12_37 : mj_fetch 12 37 = some (.putfield 30, 1, 5) := by decide +kernel
theorem f_12_40 : mj_fetch 12 40 = some (.aload_n 0, 0, 0) := by decide +kernel
theorem f_12_41 : mj_fetch 12 41 = some (.getfield 30, 1, 5) := by decide +kernel
theorem f_12_44 : mj_fetch 12 44 = some (.iconst 1, 0, 0) := by decide +kernel
theorem f_12_45 : mj_fetch 12 45 = some (.isub, 0, 0) := by decide +kernel
theorem f_12_46 : mj_fetch 12 46 = some (.ireturn, 0, 0) := by decide +kernel
theorem f_13_0 : mj_fetch 13 0 = some (.iload_n 1, 0, 0) := by decide +kernel
theorem f_13_1 : mj_fetch 13 1 = some (.ifCond .lt 20, 0, 0) := by decide +kernel
theorem f_13_4 : mj_fetch 13 4 = some (.iload_n 1, 0, 0) := by decide +kernel
theorem f_13_5 : mj_fetch 13 5 = some (.aload_n 0, 0, 0) := by decide +kernel
theorem f_13_6 : mj_fetch 13 6 = some (.getfield 30, 1, 5) := by decide +kernel
theorem f_13_9 : mj_fetch 13 9 = some (.if_icmp .ge 12, 0, 0) := by decide +kernel
theorem f_13_12 : mj_fetch 13 12 = some (.aload_n 0, 0, 0) := by decide +kernel
theorem f_13_13 : mj_fetch 13 13 = some (.getfield 13, 1, 0) := by decide +kernel
theorem f_13_16 : mj_fetch 13 16 = some (.iload_n 1, 0, 0) := by decide +kernel
theorem f_13_17 : mj_fetch 13 17 = some (.aaload, 0, 0) := by decide +kernel
theorem f_13_18 : mj_fetch 13 18 = some (.goto 4, 0, 0) := by decide +kernel
theorem f_13_21 : mj_fetch 13 21 = some (.aconst_null, 0, 0) := by decide +kernel
theorem f_13_22 : mj_fetch 13 22 = some (.areturn, 0, 0) := by decide +kernel
theorem f_14_0 : mj_fetch 14 0 = some (.aload_n 0, 0, 0) := by decide +kernel
theorem f_14_1 : mj_fetch 14 1 = some (.iload_n 1, 0, 0) := by decide +kernel
theorem f_14_2 : mj_fetch 14 2 = some (.invokevirtual 37, 13, 0) := by decide +kernel
theorem f_14_5 : mj_fetch 14 5 = some (.ifnull 12, 0, 0) := by decide +kernel
theorem f_14_8 : mj_fetch 14 8 = some (.aload_n 0, 0, 0) := by decide +kernel
theorem f_14_9 : mj_fetch 14 9 = some (.getfield 41, 1, 6) := by decide +kernel
theorem f_14_12 : mj_fetch 14 12 = some (.bipush 100, 0, 0) := by decide +kernel
theorem f_14_14 : mj_fetch 14 14 = some (.if_icmp .ne 5, 0, 0) := by decide +kernel
theorem f_14_17 : mj_fetch 14 17 = some (.iconst 0, 0, 0) := by decide +kernel
theorem f_14_18 : mj_fetch 14 18 = some (.ireturn, 0, 0) := by decide +kernel
theorem f_14_19 : mj_fetch 14 19 = some (.aload_n 0, 0, 0) := by decide +kernel
theorem f_14_20 : mj_fetch 14 20 = some (.getfield 21, 1, 2) := by decide +kernel
theorem f_14_23 : mj_fetch 14 23 = some (.aload_n 0, 0, 0) := by decide +kernel
theorem f_14_24 : mj_fetch 14 24 = some (.getfield 41, 1, 6) := by decide +kernel
theorem f_14_27 : mj_fetch 14 27 = some (.iload_n 1, 0, 0) := by decide +kernel
theorem f_14_28 : mj_fetch 14 28 = some (.iastore, 0, 0) := by decide +kernel
theorem f_14_29 : mj_fetch 14 29 = some (.aload_n 0, 0, 0) := by decide +kernel
theorem f_14_30 : mj_fetch 14 30 = some (.getfield 24, 1, 3) := by decide +kernel
theorem f_14_33 : mj_fetch 14 33 = some (.aload_n 0, 0, 0) := by decide +kernel
theorem f_14_34 : mj_fetch 14 34 = some (.getfield 41, 1, 6) := by decide +kernel
theorem f_14_37 : mj_fetch 14 37 = some (.iload_n 2, 0, 0) := by decide +kernel
theorem f_14_38 : mj_fetch 14 38 = some (.ifCond .eq 7, 0, 0) := by decide +kernel
theorem f_14_41 : mj_fetch 14 41 = some (.iconst 1, 0, 0) := by decide +kernel
theorem f_14_42 : mj_fetch 14 42 = some (.goto 4, 0, 0) := by decide +kernel
theorem f_14_45 : mj_fetch 14 45 = some (.iconst 2, 0, 0) := by decide +kernel
theorem f_14_46 : mj_fetch 14 46 = some (.iastore, 0, 0) := by decide +kernel
theorem f_14_47 : mj_fetch 14 47 = some (.aload_n 0, 0, 0) := by decide +kernel
theorem f_14_48 : mj_fetch 14 48 = some (.getfield 27, 1, 4) := by decide +kernel
theorem f_14_51 : mj_fetch 14 51 = some (.aload_n 0, 0, 0) := by decide +kernel
theorem f_14_52 : mj_fetch 14 52 = some (.getfield 41, 1, 6) := by decide +kernel
theorem f_14_55 : mj_fetch 14 55 = some (.iload_n 3, 0, 0) := by decide +kernel
theorem f_14_56 : mj_fetch 14 56 = some (.iastore, 0, 0) := by decide +kernel
theorem f_14_57 : mj_fetch 14 57 = some (.aload_n 0, 0, 0) := by decide +kernel
theorem f_14_58 : mj_fetch 14 58 = some (.dup, 0, 0) := by decide +kernel
theorem f_14_59 : mj_fetch 14 59 = some (.getfield 41, 1, 6) := by decide +kernel
theorem f_14_62 : mj_fetch 14 62 = some (.iconst 1, 0, 0) := by decide +kernel
theorem f_14_63 : mj_fetch 14 63 = some (.iadd, 0, 0) := by decide +kernel
theorem f_14_64 : mj_fetch 14 64 = some (.putfield 41, 1, 6) := by decide +kernel
theorem f_14_67 : mj_fetch 14 67 = some (.iconst 1, 0, 0) := by decide +kernel
theorem f_14_68 : mj_fetch 14 68 = some (.ireturn, 0, 0) := by decide +kernel
theorem f_15_0 : mj_fetch 15 0 = some (.iconst 0, 0, 0) := by decide +kernel
theorem f_15_1 : mj_fetch 15 1 = some (.istore_n 2, 0, 0) := by decide +kernel
theorem f_15_2 : mj_fetch 15 2 = some (.iload_n 2, 0, 0) := by decide +kernel
theorem f_15_3 : mj_fetch 15 3 = some (.aload_n 0, 0, 0) := by decide +kernel
theorem f_15_4 : mj_fetch 15 4 = some (.getfield 30, 1, 5) := by decide +kernel
theorem f_15_7 : mj_fetch 15 7 = some (.if_icmp .ge 16, 0, 0) := by decide +kernel
theorem f_15_10 : mj_fetch 15 10 = some (.aload_n 0, 0, 0) := by decide +kernel
theorem f_15_11 : mj_fetch 15 11 = some (.getfield 17, 1, 1) := by decide +kernel
theorem f_15_14 : mj_fetch 15 14 = some (.iload_n 2, 0, 0) := by decide +kernel
theorem f_15_15 : mj_fetch 15 15 = some (.iconst 0, 0, 0) := by decide +kernel
theorem f_15_16 : mj_fetch 15 16 = some (.iastore, 0, 0) := by decide +kernel
theorem f_15_17 : mj_fetch 15 17 = some (.iinc 2 1, 0, 0) := by decide +kernel
theorem f_15_20 : mj_fetch 15 20 = some (.goto (-18), 0, 0) := by decide +kernel
theorem f_15_23 : mj_fetch 15 23 = some (.iconst 0, 0, 0) := by decide +kernel
theorem f_15_24 : mj_fetch 15 24 = some (.istore_n 2, 0, 0) := by decide +kernel
theorem f_15_25 : mj_fetch 15 25 = some (.iload_n 2, 0, 0) := by decide +kernel
theorem f_15_26 : mj_fetch 15 26 = some (.aload_n 0, 0, 0) := by decide +kernel
theorem f_15_27 : mj_fetch 15 27 = some (.getfield 41, 1, 6) := by decide +kernel
theorem f_15_30 : mj_fetch 15 30 = some (.if_icmp .ge 36, 0, 0) := by decide +kernel
theorem f_15_33 : mj_fetch 15 33 = some (.aload_n 0, 0, 0) := by decide +kernel
theorem f_15_34 : mj_fetch 15 34 = some (.getfield 27, 1, 4) := by decide +kernel
theorem f_15_37 : mj_fetch 15 37 = some (.iload_n 2, 0, 0) := by decide +kernel
theorem f_15_38 : mj_fetch 15 38 = some (.iaload, 0, 0) := by decide +kernel
theorem f_15_39 : mj_fetch 15 39 = some (.iload_n 1, 0, 0) := by decide +kernel
theorem f_15_40 : mj_fetch 15 40 = some (.if_icmp .gt 26, 0, 0) := by decide +kernel
theorem f_15_43 : mj_fetch 15 43 = some (.aload_n 0, 0, 0) := by decide +kernel
theorem f_15_44 : mj_fetch 15 44 = some (.getfield 17, 1, 1) := by decide +kernel
theorem f_15_47 : mj_fetch 15 47 = some (.aload_n 0, 0, 0) := by decide +kernel
theorem f_15_48 : mj_fetch 15 48 = some (.getfield 21, 1, 2) := by decide +kernel
theorem f_15_51 : mj_fetch 15 51 = some (.iload_n 2, 0, 0) := by decide +kernel
theorem f_15_52 : mj_fetch 15 52 = some (.iaload, 0, 0) := by decide +kernel
theorem f_15_53 : mj_fetch 15 53 = some (.aload_n 0, 0, 0) := by decide +kernel
theorem f_15_54 : mj_fetch 15 54 = some (.getfield 24, 1, 3) := by decide +kernel
theorem f_15_57 : mj_fetch 15 57 = some (.iload_n 2, 0, 0) := by decide +kernel
theorem f_15_58 : mj_fetch 15 58 = some (.iaload, 0, 0) := by decide +kernel
theorem f_15_59 : mj_fetch 15 59 = some (.iastore, 0, 0) := by decide +kernel
theorem f_15_60 : mj_fetch 15 60 = some (.iinc 2 1, 0, 0) := by decide +kernel
theorem f_15_63 : mj_fetch 15 63 = some (.goto (-38), 0, 0) := by decide +kernel
theorem f_15_66 : mj_fetch 15 66 = some (.return_, 0, 0) := by decide +kernel
theorem f_16_0 : mj_fetch 16 0 = some (.iconst 0, 0, 0) := by decide +kernel
theorem f_16_1 : mj_fetch 16 1 = some (.istore_n 2, 0, 0) := by decide +kernel
theorem f_16_2 : mj_fetch 16 2 = some (.iconst 0, 0, 0) := by decide +kernel
theorem f_16_3 : mj_fetch 16 3 = some (.istore_n 3, 0, 0) := by decide +kernel
theorem f_16_4 : mj_fetch 16 4 = some (.iload_n 3, 0, 0) := by decide +kernel
theorem f_16_5 : mj_fetch 16 5 = some (.aload_n 0, 0, 0) := by decide +kernel
theorem f_16_6 : mj_fetch 16 6 = some (.getfield 30, 1, 5) := by decide +kernel
theorem f_16_9 : mj_fetch 16 9 = some (.if_icmp .ge 65, 0, 0) := by decide +kernel
theorem f_16_12 : mj_fetch 16 12 = some (.aload_n 0, 0, 0) := by decide +kernel
theorem f_16_13 : mj_fetch 16 13 = some (.iload_n 3, 0, 0) := by decide +kernel
theorem f_16_14 : mj_fetch 16 14 = some (.invokevirtual 37, 13, 0) := by decide +kernel
theorem f_16_17 : mj_fetch 16 17 = some (.astore 4, 0, 0) := by decide +kernel
theorem f_16_19 : mj_fetch 16 19 = some (.aload 4, 0, 0) := by decide +kernel
theorem f_16_21 : mj_fetch 16 21 = some (.ifnull 47, 0, 0) := by decide +kernel
theorem f_16_24 : mj_fetch 16 24 = some (.aload_n 0, 0, 0) := by decide +kernel
theorem f_16_25 : mj_fetch 16 25 = some (.getfield 17, 1, 1) := by decide +kernel
theorem f_16_28 : mj_fetch 16 28 = some (.iload_n 3, 0, 0) := by decide +kernel
theorem f_16_29 : mj_fetch 16 29 = some (.iaload, 0, 0) := by decide +kernel
theorem f_16_30 : mj_fetch 16 30 = some (.ifCond .eq 38, 0, 0) := by decide +kernel
theorem f_16_33 : mj_fetch 16 33 = some (.aload_n 1, 0, 0) := by decide +kernel
theorem f_16_34 : mj_fetch 16 34 = some (.aload 4, 0, 0) := by decide +kernel
theorem f_16_36 : mj_fetch 16 36 = some (.getfield 44, 4, 0) := by decide +kernel
theorem f_16_39 : mj_fetch 16 39 = some (.aload 4, 0, 0) := by decide +kernel
theorem f_16_41 : mj_fetch 16 41 = some (.getfield 48, 4, 1) := by decide +kernel
theorem f_16_44 : mj_fetch 16 44 = some (.invokevirtual 51, 1, 0) := by decide +kernel
theorem f_16_47 : mj_fetch 16 47 = some (.aload_n 0, 0, 0) := by decide +kernel
theorem f_16_48 : mj_fetch 16 48 = some (.getfield 17, 1, 1) := by decide +kernel
theorem f_16_51 : mj_fetch 16 51 = some (.iload_n 3, 0, 0) := by decide +kernel
theorem f_16_52 : mj_fetch 16 52 = some (.iaload, 0, 0) := by decide +kernel
theorem f_16_53 : mj_fetch 16 53 = some (.iconst 1, 0, 0) := by decide +kernel
theorem f_16_54 : mj_fetch 16 54 = some (.if_icmp .ne 7, 0, 0) := by decide +kernel
theorem f_16_57 : mj_fetch 16 57 = some (.iconst 1, 0, 0) := by decide +kernel
theorem f_16_58 : mj_fetch 16 58 = some (.goto 4, 0, 0) := by decide +kernel
theorem f_16_61 : mj_fetch 16 61 = some (.iconst 0, 0, 0) := by decide +kernel
theorem f_16_62 : mj_fetch 16 62 = some (.if_icmp .eq 6, 0, 0) := by decide +kernel
theorem f_16_65 : mj_fetch 16 65 = some (.iinc 2 1, 0, 0) := by decide +kernel
theorem f_16_68 : mj_fetch 16 68 = some (.iinc 3 1, 0, 0) := by decide +kernel
theorem f_16_71 : mj_fetch 16 71 = some (.goto (-67), 0, 0) := by decide +kernel
theorem f_16_74 : mj_fetch 16 74 = some (.iload_n 2, 0, 0) := by decide +kernel
theorem f_16_75 : mj_fetch 16 75 = some (.ireturn, 0, 0) := by decide +kernel
theorem f_17_0 : mj_fetch 17 0 = some (.iconst (-1), 0, 0) := by decide +kernel
theorem f_17_1 : mj_fetch 17 1 = some (.istore_n 2, 0, 0) := by decide +kernel
theorem f_17_2 : mj_fetch 17 2 = some (.iconst 0, 0, 0) := by decide +kernel
theorem f_17_3 : mj_fetch 17 3 = some (.istore_n 3, 0, 0) := by decide +kernel
theorem f_17_4 : mj_fetch 17 4 = some (.iconst 1, 0, 0) := by decide +kernel
theorem f_17_5 : mj_fetch 17 5 = some (.istore 4, 0, 0) := by decide +kernel
theorem f_17_7 : mj_fetch 17 7 = some (.iconst 0, 0, 0) := by decide +kernel
theorem f_17_8 : mj_fetch 17 8 = some (.istore 5, 0, 0) := by decide +kernel
theorem f_17_10 : mj_fetch 17 10 = some (.iload 5, 0, 0) := by decide +kernel
theorem f_17_12 : mj_fetch 17 12 = some (.iload_n 1, 0, 0) := by decide +kernel
theorem f_17_13 : mj_fetch 17 13 = some (.if_icmp .ge 52, 0, 0) := by decide +kernel
theorem f_17_16 : mj_fetch 17 16 = some (.aload_n 0, 0, 0) := by decide +kernel
theorem f_17_17 : mj_fetch 17 17 = some (.iload 5, 0, 0) := by decide +kernel
theorem f_17_19 : mj_fetch 17 19 = some (.iconst 2, 0, 0) := by decide +kernel
theorem f_17_20 : mj_fetch 17 20 = some (.invokevirtual 57, 18, 0) := by decide +kernel
theorem f_17_23 : mj_fetch 17 23 = some (.istore 6, 0, 0) := by decide +kernel
theorem f_17_25 : mj_fetch 17 25 = some (.iload 6, 0, 0) := by decide +kernel
theorem f_17_27 : mj_fetch 17 27 = some (.aload_n 0, 0, 0) := by decide +kernel
theorem f_17_28 : mj_fetch 17 28 = some (.iload 5, 0, 0) := by decide +kernel
theorem f_17_30 : mj_fetch 17 30 = some (.iconst 1, 0, 0) := by decide +kernel
theorem f_17_31 : mj_fetch 17 31 = some (.invokevirtual 57, 18, 0) := by decide +kernel
theorem f_17_34 : mj_fetch 17 34 = some (.iadd, 0, 0) := by decide +kernel
theorem f_17_35 : mj_fetch 17 35 = some (.istore 7, 0, 0) := by decide +kernel
theorem f_17_37 : mj_fetch 17 37 = some (.iload 6, 0, 0) := by decide +kernel
theorem f_17_39 : mj_fetch 17 39 = some (.iload 4, 0, 0) := by decide +kernel
theorem f_17_41 : mj_fetch 17 41 = some (.imul, 0, 0) := by decide +kernel
theorem f_17_42 : mj_fetch 17 42 = some (.iload_n 3, 0, 0) := by decide +kernel
theorem f_17_43 : mj_fetch 17 43 = some (.iload 7, 0, 0) := by decide +kernel
theorem f_17_45 : mj_fetch 17 45 = some (.imul, 0, 0) := by decide +kernel
theorem f_17_46 : mj_fetch 17 46 = some (.if_icmp .le 13, 0, 0) := by decide +kernel
theorem f_17_49 : mj_fetch 17 49 = some (.iload 5, 0, 0) := by decide +kernel
theorem f_17_51 : mj_fetch 17 51 = some (.istore_n 2, 0, 0) := by decide +kernel
theorem f_17_52 : mj_fetch 17 52 = some (.iload 6, 0, 0) := by decide +kernel
theorem f_17_54 : mj_fetch 17 54 = some (.istore_n 3, 0, 0) := by decide +kernel
theorem f_17_55 : mj_fetch 17 55 = some (.iload 7, 0, 0) := by decide +kernel
theorem f_17_57 : mj_fetch 17 57 = some (.istore 4, 0, 0) := by decide +kernel
theorem f_17_59 : mj_fetch 17 59 = some (.iinc 5 1, 0, 0) := by decide +kernel
theorem f_17_62 : mj_fetch 17 62 = some (.goto (-52), 0, 0) := by decide +kernel
theorem f_17_65 : mj_fetch 17 65 = some (.iload_n 2, 0, 0) := by decide +kernel
theorem f_17_66 : mj_fetch 17 66 = some (.ireturn, 0, 0) := by decide +kernel
theorem f_18_0 : mj_fetch 18 0 = some (.iconst 0, 0, 0) := by decide +kernel
theorem f_18_1 : mj_fetch 18 1 = some (.istore_n 3, 0, 0) := by decide +kernel
theorem f_18_2 : mj_fetch 18 2 = some (.iconst 0, 0, 0) := by decide +kernel
theorem f_18_3 : mj_fetch 18 3 = some (.istore 4, 0, 0) := by decide +kernel
theorem f_18_5 : mj_fetch 18 5 = some (.iload 4, 0, 0) := by decide +kernel
theorem f_18_7 : mj_fetch 18 7 = some (.aload_n 0, 0, 0) := by decide +kernel
theorem f_18_8 : mj_fetch 18 8 = some (.getfield 30, 1, 5) := by decide +kernel
theorem f_18_11 : mj_fetch 18 11 = some (.if_icmp .ge 48, 0, 0) := by decide +kernel
theorem f_18_14 : mj_fetch 18 14 = some (.aload_n 0, 0, 0) := by decide +kernel
theorem f_18_15 : mj_fetch 18 15 = some (.iload 4, 0, 0) := by decide +kernel
theorem f_18_17 : mj_fetch 18 17 = some (.invokevirtual 37, 13, 0) := by decide +kernel
theorem f_18_20 : mj_fetch 18 20 = some (.astore 5, 0, 0) := by decide +kernel
theorem f_18_22 : mj_fetch 18 22 = some (.aload 5, 0, 0) := by decide +kernel
theorem f_18_24 : mj_fetch 18 24 = some (.ifnull 29, 0, 0) := by decide +kernel
theorem f_18_27 : mj_fetch 18 27 = some (.aload_n 0, 0, 0) := by decide +kernel
theorem f_18_28 : mj_fetch 18 28 = some (.getfield 17, 1, 1) := by decide +kernel
theorem f_18_31 : mj_fetch 18 31 = some (.iload 4, 0, 0) := by decide +kernel
theorem f_18_33 : mj_fetch 18 33 = some (.iaload, 0, 0) := by decide +kernel
theorem f_18_34 : mj_fetch 18 34 = some (.iload_n 2, 0, 0) := by decide +kernel
theorem f_18_35 : mj_fetch 18 35 = some (.if_icmp .ne 18, 0, 0) := by decide +kernel
theorem f_18_38 : mj_fetch 18 38 = some (.aload 5, 0, 0) := by decide +kernel
theorem f_18_40 : mj_fetch 18 40 = some (.getfield 44, 4, 0) := by decide +kernel
theorem f_18_43 : mj_fetch 18 43 = some (.iload_n 1, 0, 0) := by decide +kernel
theorem f_18_44 : mj_fetch 18 44 = some (.invokevirtual 61, 32, 0) := by decide +kernel
theorem f_18_47 : mj_fetch 18 47 = some (.ifCond .eq 6, 0, 0) := by decide +kernel
theorem f_18_50 : mj_fetch 18 50 = some (.iinc 3 1, 0, 0) := by decide +kernel
theorem f_18_53 : mj_fetch 18 53 = some (.iinc 4 1, 0, 0) := by decide +kernel
theorem f_18_56 : mj_fetch 18 56 = some (.goto (-51), 0, 0) := by decide +kernel
theorem f_18_59 : mj_fetch 18 59 = some (.iload_n 3, 0, 0) := by decide +kernel
theorem f_18_60 : mj_fetch 18 60 = some (.ireturn, 0, 0) := by decide +kernel
theorem f_19_0 : mj_fetch 19 0 = some (.aload_n 0, 0, 0) := by decide +kernel
theorem f_19_1 : mj_fetch 19 1 = some (.invokespecial 3, 0, 1) := by decide +kernel
theorem f_19_4 : mj_fetch 19 4 = some (.aload_n 0, 0, 0) := by decide +kernel
theorem f_19_5 : mj_fetch 19 5 = some (.bipush 8, 0, 0) := by decide +kernel
theorem f_19_7 : mj_fetch 19 7 = some (.newarray .int, 12, 0) := by decide +kernel
theorem f_19_9 : mj_fetch 19 9 = some (.putfield 11, 2, 0) := by decide +kernel
theorem f_19_12 : mj_fetch 19 12 = some (.aload_n 0, 0, 0) := by decide +kernel
theorem f_19_13 : mj_fetch 19 13 = some (.bipush 8, 0, 0) := by decide +kernel
theorem f_19_15 : mj_fetch 19 15 = some (.newarray .int, 12, 0) := by decide +kernel
theorem f_19_17 : mj_fetch 19 17 = some (.putfield 15, 2, 1) := by decide +kernel
theorem f_19_20 : mj_fetch 19 20 = some (.aload_n 0, 0, 0) := by decide +kernel
theorem f_19_21 : mj_fetch 19 21 = some (.bipush 8, 0, 0) := by decide +kernel
theorem f_19_23 : mj_fetch 19 23 = some (.newarray .int, 12, 0) := by decide +kernel
theorem f_19_25 : mj_fetch 19 25 = some (.putfield 18, 2, 2) := by decide +kernel
theorem f_19_28 : mj_fetch 19 28 = some (.aload_n 0, 0, 0) := by decide +kernel
theorem f_19_29 : mj_fetch 19 29 = some (.bipush 64, 0, 0) := by decide +kernel
theorem f_19_31 : mj_fetch 19 31 = some (.newarray .int, 12, 0) := by decide +kernel
theorem f_19_33 : mj_fetch 19 33 = some (.putfield 21, 2, 3) := by decide +kernel
theorem f_19_36 : mj_fetch 19 36 = some (.return_, 0, 0) := by decide +kernel
theorem f_20_0 : mj_fetch 20 0 = some (.aload_n 0, 0, 0) := by decide +kernel
theorem f_20_1 : mj_fetch 20 1 = some (.getfield 24, 2, 5) := by decide +kernel
theorem f_20_4 : mj_fetch 20 4 = some (.bipush 8, 0, 0) := by decide +kernel
theorem f_20_6 : mj_fetch 20 6 = some (.if_icmp .ne 5, 0, 0) := by decide +kernel
theorem f_20_9 : mj_fetch 20 9 = some (.iconst (-1), 0, 0) := by decide +kernel
theorem f_20_10 : mj_fetch 20 10 = some (.ireturn, 0, 0) := by decide +kernel
theorem f_20_11 : mj_fetch 20 11 = some (.aload_n 0, 0, 0) := by decide +kernel
theorem f_20_12 : mj_fetch 20 12 = some (.getfield 11, 2, 0) := by decide +kernel
theorem f_20_15 : mj_fetch 20 15 = some (.aload_n 0, 0, 0) := by decide +kernel
theorem f_20_16 : mj_fetch 20 16 = some (.getfield 24, 2, 5) := by decide +kernel
theorem f_20_19 : mj_fetch 20 19 = some (.iload_n 1, 0, 0) := by decide +kernel
theorem f_20_20 : mj_fetch 20 20 = some (.iastore, 0, 0) := by decide +kernel
theorem f_20_21 : mj_fetch 20 21 = some (.aload_n 0, 0, 0) := by decide +kernel
theorem f_20_22 : mj_fetch 20 22 = some (.getfield 15, 2, 1) := by decide +kernel
theorem f_20_25 : mj_fetch 20 25 = some (.aload_n 0, 0, 0) := by decide +kernel
theorem f_20_26 : mj_fetch 20 26 = some (.getfield 24, 2, 5) := by decide +kernel
theorem f_20_29 : mj_fetch 20 29 = some (.iload_n 2, 0, 0) := by decide +kernel
theorem f_20_30 : mj_fetch 20 30 = some (.iastore, 0, 0) := by decide +kernel
theorem f_20_31 : mj_fetch 20 31 = some (.aload_n 0, 0, 0) := by decide +kernel
theorem f_20_32 : mj_fetch 20 32 = some (.dup, 0, 0) := by decide +kernel
theorem f_20_33 : mj_fetch 20 33 = some (.getfield 24, 2, 5) := by decide +kernel
theorem f_20_36 : mj_fetch 20 36 = some (.iconst 1, 0, 0) := by decide +kernel
theorem f_20_37 : mj_fetch 20 37 = some (.iadd, 0, 0) := by decide +kernel
theorem f_20_38 : mj_fetch 20 38 = some (.putfield 24, 2, 5) := by decide +kernel
theorem f_20_41 : mj_fetch 20 41 = some (.aload_n 0, 0, 0) := by decide +kernel
theorem f_20_42 : mj_fetch 20 42 = some (.iconst 0, 0, 0) := by decide +kernel
theorem f_20_43 : mj_fetch 20 43 = some (.putfield 28, 2, 7) := by decide +kernel
theorem f_20_46 : mj_fetch 20 46 = some (.aload_n 0, 0, 0) := by decide +kernel
theorem f_20_47 : mj_fetch 20 47 = some (.getfield 24, 2, 5) := by decide +kernel
theorem f_20_50 : mj_fetch 20 50 = some (.iconst 1, 0, 0) := by decide +kernel
theorem f_20_51 : mj_fetch 20 51 = some (.isub, 0, 0) := by decide +kernel
theorem f_20_52 : mj_fetch 20 52 = some (.ireturn, 0, 0) := by decide +kernel
theorem f_21_0 : mj_fetch 21 0 = some (.aload_n 0, 0, 0) := by decide +kernel
theorem f_21_1 : mj_fetch 21 1 = some (.iconst 0, 0, 0) := by decide +kernel
theorem f_21_2 : mj_fetch 21 2 = some (.putfield 24, 2, 5) := by decide +kernel
theorem f_21_5 : mj_fetch 21 5 = some (.aload_n 0, 0, 0) := by decide +kernel
theorem f_21_6 : mj_fetch 21 6 = some (.iconst 0, 0, 0) := by decide +kernel
theorem f_21_7 : mj_fetch 21 7 = some (.putfield 28, 2, 7) := by decide +kernel
theorem f_21_10 : mj_fetch 21 10 = some (.return_, 0, 0) := by decide +kernel
theorem f_22_0 : mj_fetch 22 0 = some (.aload_n 0, 0, 0) := by decide +kernel
theorem f_22_1 : mj_fetch 22 1 = some (.getfield 28, 2, 7) := by decide +kernel
theorem f_22_4 : mj_fetch 22 4 = some (.ifCond .eq 4, 0, 0) := by decide +kernel
theorem f_22_7 : mj_fetch 22 7 = some (.return_, 0, 0) := by decide +kernel
theorem f_22_8 : mj_fetch 22 8 = some (.aload_n 0, 0, 0) := by decide +kernel
theorem f_22_9 : mj_fetch 22 9 = some (.getfield 32, 2, 4) := by decide +kernel
theorem f_22_12 : mj_fetch 22 12 = some (.ifnonnull 12, 0, 0) := by decide +kernel
theorem f_22_15 : mj_fetch 22 15 = some (.aload_n 0, 0, 0) := by decide +kernel
theorem f_22_16 : mj_fetch 22 16 = some (.sipush 2048, 0, 0) := by decide +kernel
theorem f_22_19 : mj_fetch 22 19 = some (.newarray .int, 12, 0) := by decide +kernel
theorem f_22_21 : mj_fetch 22 21 = some (.putfield 32, 2, 4) := by decide +kernel
theorem f_22_24 : mj_fetch 22 24 = some (.aload_n 0, 0, 0) := by decide +kernel
theorem f_22_25 : mj_fetch 22 25 = some (.invokevirtual 35, 23, 0) := by decide +kernel
theorem f_22_28 : mj_fetch 22 28 = some (.aload_n 0, 0, 0) := by decide +kernel
theorem f_22_29 : mj_fetch 22 29 = some (.aload_n 0, 0, 0) := by decide +kernel
theorem f_22_30 : mj_fetch 22 30 = some (.getfield 32, 2, 4) := by decide +kernel
theorem f_22_33 : mj_fetch 22 33 = some (.invokevirtual 38, 25, 0) := by decide +kernel
theorem f_22_36 : mj_fetch 22 36 = some (.iconst 0, 0, 0) := by decide +kernel
theorem f_22_37 : mj_fetch 22 37 = some (.istore_n 1, 0, 0) := by decide +kernel
theorem f_22_38 : mj_fetch 22 38 = some (.iconst (-1), 0, 0) := by decide +kernel
theorem f_22_39 : mj_fetch 22 39 = some (.istore_n 2, 0, 0) := by decide +kernel
theorem f_22_40 : mj_fetch 22 40 = some (.aload_n 0, 0, 0) := by decide +kernel
theorem f_22_41 : mj_fetch 22 41 = some (.iconst 0, 0, 0) := by decide +kernel
theorem f_22_42 : mj_fetch 22 42 = some (.putfield 42, 2, 6) := by decide +kernel
theorem f_22_45 : mj_fetch 22 45 = some (.iconst 0, 0, 0) := by decide +kernel
theorem f_22_46 : mj_fetch 22 46 = some (.istore_n 3, 0, 0) := by decide +kernel
theorem f_22_47 : mj_fetch 22 47 = some (.iload_n 3, 0, 0) := by decide +kernel
theorem f_22_48 : mj_fetch 22 48 = some (.aload_n 0, 0, 0) := by decide +kernel
theorem f_22_49 : mj_fetch 22 49 = some (.getfield 24, 2, 5) := by decide +kernel
theorem f_22_52 : mj_fetch 22 52 = some (.if_icmp .ge 62, 0, 0) := by decide +kernel
theorem f_22_55 : mj_fetch 22 55 = some (.aload_n 0, 0, 0) := by decide +kernel
theorem f_22_56 : mj_fetch 22 56 = some (.aload_n 0, 0, 0) := by decide +kernel
theorem f_22_57 : mj_fetch 22 57 = some (.getfield 32, 2, 4) := by decide +kernel
theorem f_22_60 : mj_fetch 22 60 = some (.iload_n 1, 0, 0) := by decide +kernel
theorem f_22_61 : mj_fetch 22 61 = some (.iload_n 2, 0, 0) := by decide +kernel
theorem f_22_62 : mj_fetch 22 62 = some (.invokevirtual 45, 26, 0) := by decide +kernel
theorem f_22_65 : mj_fetch 22 65 = some (.istore 4, 0, 0) := by decide +kernel
theorem f_22_67 : mj_fetch 22 67 = some (.iload 4, 0, 0) := by decide +kernel
theorem f_22_69 : mj_fetch 22 69 = some (.iconst (-1), 0, 0) := by decide +kernel
theorem f_22_70 : mj_fetch 22 70 = some (.if_icmp .ne 4, 0, 0) := by decide +kernel
theorem f_22_73 : mj_fetch 22 73 = some (.return_, 0, 0) := by decide +kernel
theorem f_22_74 : mj_fetch 22 74 = some (.aload_n 0, 0, 0) := by decide +kernel
theorem f_22_75 : mj_fetch 22 75 = some (.dup, 0, 0) := by decide +kernel
theorem f_22_76 : mj_fetch 22 76 = some (.getfield 42, 2, 6) := by decide +kernel
theorem f_22_79 : mj_fetch 22 79 = some (.aload_n 0, 0, 0) := by decide +kernel
theorem f_22_80 : mj_fetch 22 80 = some (.iload_n 2, 0, 0) := by decide +kernel
theorem f_22_81 : mj_fetch 22 81 = some (.iload 4, 0, 0) := by decide +kernel
theorem f_22_83 : mj_fetch 22 83 = some (.invokevirtual 49, 28, 0) := by decide +kernel
theorem f_22_86 : mj_fetch 22 86 = some (.iadd, 0, 0) := by decide +kernel
theorem f_22_87 : mj_fetch 22 87 = some (.putfield 42, 2, 6) := by decide +kernel
theorem f_22_90 : mj_fetch 22 90 = some (.iload_n 1, 0, 0) := by decide +kernel
theorem f_22_91 : mj_fetch 22 91 = some (.iconst 1, 0, 0) := by decide +kernel
theorem f_22_92 : mj_fetch 22 92 = some (.iload 4, 0, 0) := by decide +kernel
theorem f_22_94 : mj_fetch 22 94 = some (.ishl, 0, 0) := by decide +kernel
theorem f_22_95 : mj_fetch 22 95 = some (.ior, 0, 0) := by decide +kernel
theorem f_22_96 : mj_fetch 22 96 = some (.istore_n 1, 0, 0) := by decide +kernel
theorem f_22_97 : mj_fetch 22 97 = some (.iload 4, 0, 0) := by decide +kernel
theorem f_22_99 : mj_fetch 22 99 = some (.istore_n 2, 0, 0) := by decide +kernel
theorem f_22_100 : mj_fetch 22 100 = some (.aload_n 0, 0, 0) := by decide +kernel
theorem f_22_101 : mj_fetch 22 101 = some (.getfield 18, 2, 2) := by decide +kernel
theorem f_22_104 : mj_fetch 22 104 = some (.iload_n 3, 0, 0) := by decide +kernel
theorem f_22_105 : mj_fetch 22 105 = some (.iload 4, 0, 0) := by decide +kernel
theorem f_22_107 : mj_fetch 22 107 = some (.iastore, 0, 0) := by decide +kernel
theorem f_22_108 : mj_fetch 22 108 = some (.iinc 3 1, 0, 0) := by decide +kernel
theorem f_22_111 : mj_fetch 22 111 = some (.goto (-64), 0, 0) := by decide +kernel
theorem f_22_114 : mj_fetch 22 114 = some (.aload_n 0, 0, 0) := by decide +kernel
theorem f_22_115 : mj_fetch 22 115 = some (.iconst 1, 0, 0) := by decide +kernel
theorem f_22_116 : mj_fetch 22 116 = some (.putfield 28, 2, 7) := by decide +kernel
theorem f_22_119 : mj_fetch 22 119 = some (.return_, 0, 0) := by decide +kernel
theorem f_23_0 : mj_fetch 23 0 = some (.iconst 0, 0, 0) := by decide +kernel
theorem f_23_1 : mj_fetch 23 1 = some (.istore_n 1, 0, 0) := by decide +kernel
theorem f_23_2 : mj_fetch 23 2 = some (.iload_n 1, 0, 0) := by decide +kernel
theorem f_23_3 : mj_fetch 23 3 = some (.aload_n 0, 0, 0) := by decide +kernel
theorem f_23_4 : mj_fetch 23 4 = some (.getfield 24, 2, 5) := by decide +kernel
theorem f_23_7 : mj_fetch 23 7 = some (.if_icmp .ge 42, 0, 0) := by decide +kernel
theorem f_23_10 : mj_fetch 23 10 = some (.iconst 0, 0, 0) := by decide +kernel
theorem f_23_11 : mj_fetch 23 11 = some (.istore_n 2, 0, 0) := by decide +kernel
theorem f_23_12 : mj_fetch 23 12 = some (.iload_n 2, 0, 0) := by decide +kernel
theorem f_23_13 : mj_fetch 23 13 = some (.aload_n 0, 0, 0) := by decide +kernel
theorem f_23_14 : mj_fetch 23 14 = some (.getfield 24, 2, 5) := by decide +kernel
theorem f_23_17 : mj_fetch 23 17 = some (.if_icmp .ge 26, 0, 0) := by decide +kernel
theorem f_23_20 : mj_fetch 23 20 = some (.aload_n 0, 0, 0) := by decide +kernel
theorem f_23_21 : mj_fetch 23 21 = some (.getfield 21, 2, 3) := by decide +kernel
theorem f_23_24 : mj_fetch 23 24 = some (.iload_n 1, 0, 0) := by decide +kernel
theorem f_23_25 : mj_fetch 23 25 = some (.bipush 8, 0, 0) := by decide +kernel
theorem f_23_27 : mj_fetch 23 27 = some (.imul, 0, 0) := by decide +kernel
theorem f_23_28 : mj_fetch 23 28 = some (.iload_n 2, 0, 0) := by decide +kernel
theorem f_23_29 : mj_fetch 23 29 = some (.iadd, 0, 0) := by decide +kernel
theorem f_23_30 : mj_fetch 23 30 = some (.aload_n 0, 0, 0) := by decide +kernel
theorem f_23_31 : mj_fetch 23 31 = some (.iload_n 1, 0, 0) := by decide +kernel
theorem f_23_32 : mj_fetch 23 32 = some (.iload_n 2, 0, 0) := by decide +kernel
theorem f_23_33 : mj_fetch 23 33 = some (.invokevirtual 53, 24, 0) := by decide +kernel
theorem f_23_36 : mj_fetch 23 36 = some (.iastore, 0, 0) := by decide +kernel
theorem f_23_37 : mj_fetch 23 37 = some (.iinc 2 1, 0, 0) := by decide +kernel
theorem f_23_40 : mj_fetch 23 40 = some (.goto (-28), 0, 0) := by decide +kernel
theorem f_23_43 : mj_fetch 23 43 = some (.iinc 1 1, 0, 0) := by decide +kernel
theorem f_23_46 : mj_fetch 23 46 = some (.goto (-44), 0, 0) := by decide +kernel
theorem f_23_49 : mj_fetch 23 49 = some (.return_, 0, 0) := by decide +kernel
theorem f_24_0 : mj_fetch 24 0 = some (.aload_n 0, 0, 0) := by decide +kernel
theorem f_24_1 : mj_fetch 24 1 = some (.getfield 15, 2, 1) := by decide +kernel
theorem f_24_4 : mj_fetch 24 4 = some (.iload_n 1, 0, 0) := by decide +kernel
theorem f_24_5 : mj_fetch 24 5 = some (.iaload, 0, 0) := by decide +kernel
theorem f_24_6 : mj_fetch 24 6 = some (.istore_n 3, 0, 0) := by decide +kernel
theorem f_24_7 : mj_fetch 24 7 = some (.aload_n 0, 0, 0) := by decide +kernel
theorem f_24_8 : mj_fetch 24 8 = some (.getfield 15, 2, 1) := by decide +kernel
theorem f_24_11 : mj_fetch 24 11 = some (.iload_n 2, 0, 0) := by decide +kernel
theorem f_24_12 : mj_fetch 24 12 = some (.iaload, 0, 0) := by decide +kernel
theorem f_24_13 : mj_fetch 24 13 = some (.istore 4, 0, 0) := by decide +kernel
theorem f_24_15 : mj_fetch 24 15 = some (.iconst 3, 0, 0) := by decide +kernel
theorem f_24_16 : mj_fetch 24 16 = some (.iconst 0, 0, 0) := by decide +kernel
theorem f_24_17 : mj_fetch 24 17 = some (.iload_n 3, 0, 0) := by decide +kernel
theorem f_24_18 : mj_fetch 24 18 = some (.iload 4, 0, 0) := by decide +kernel
theorem f_24_20 : mj_fetch 24 20 = some (.invokestatic 56, 110, 0) := by decide +kernel
theorem f_24_23 : mj_fetch 24 23 = some (.imul, 0, 0) := by decide +kernel
theorem f_24_24 : mj_fetch 24 24 = some (.iconst 2, 0, 0) := by decide +kernel
theorem f_24_25 : mj_fetch 24 25 = some (.iconst 1, 0, 0) := by decide +kernel
theorem f_24_26 : mj_fetch 24 26 = some (.iload_n 3, 0, 0) := by decide +kernel
theorem f_24_27 : mj_fetch 24 27 = some (.iload 4, 0, 0) := by decide +kernel
theorem f_24_29 : mj_fetch 24 29 = some (.invokestatic 56, 110, 0) := by decide +kernel
theorem f_24_32 : mj_fetch 24 32 = some (.imul, 0, 0) := by decide +kernel
theorem f_24_33 : mj_fetch 24 33 = some (.iadd, 0, 0) := by decide +kernel
theorem f_24_34 : mj_fetch 24 34 = some (.iconst 2, 0, 0) := by decide +kernel
theorem f_24_35 : mj_fetch 24 35 = some (.iload_n 3, 0, 0) := by decide +kernel
theorem f_24_36 : mj_fetch 24 36 = some (.iload 4, 0, 0) := by decide +kernel
theorem f_24_38 : mj_fetch 24 38 = some (.invokestatic 56, 110, 0) := by decide +kernel
theorem f_24_41 : mj_fetch 24 41 = some (.iadd, 0, 0) := by decide +kernel
theorem f_24_42 : mj_fetch 24 42 = some (.istore 5, 0, 0) := by decide +kernel
theorem f_24_44 : mj_fetch 24 44 = some (.aload_n 0, 0, 0) := by decide +kernel
theorem f_24_45 : mj_fetch 24 45 = some (.getfield 11, 2, 0) := by decide +kernel
theorem f_24_48 : mj_fetch 24 48 = some (.iload_n 1, 0, 0) := by decide +kernel
theorem f_24_49 : mj_fetch 24 49 = some (.iaload, 0, 0) := by decide +kernel
theorem f_24_50 : mj_fetch 24 50 = some (.aload_n 0, 0, 0) := by decide +kernel
theorem f_24_51 : mj_fetch 24 51 = some (.getfield 11, 2, 0) := by decide +kernel
theorem f_24_54 : mj_fetch 24 54 = some (.iload_n 2, 0, 0) := by decide +kernel
theorem f_24_55 : mj_fetch 24 55 = some (.iaload, 0, 0) := by decide +kernel
theorem f_24_56 : mj_fetch 24 56 = some (.if_icmp .ne 8, 0, 0) := by decide +kernel
theorem f_24_59 : mj_fetch 24 59 = some (.iload 5, 0, 0) := by decide +kernel
theorem f_24_61 : mj_fetch 24 61 = some (.goto 8, 0, 0) := by decide +kernel
theorem f_24_64 : mj_fetch 24 64 = some (.iload 5, 0, 0) := by decide +kernel
theorem f_24_66 : mj_fetch 24 66 = some (.bipush 10, 0, 0) := by decide +kernel
theorem f_24_68 : mj_fetch 24 68 = some (.iadd, 0, 0) := by decide +kernel
theorem f_24_69 : mj_fetch 24 69 = some (.ireturn, 0, 0) := by decide +kernel
theorem f_25_0 : mj_fetch 25 0 = some (.iconst 1, 0, 0) := by decide +kernel
theorem f_25_1 : mj_fetch 25 1 = some (.aload_n 0, 0, 0) := by decide +kernel
theorem f_25_2 : mj_fetch 25 2 = some (.getfield 24, 2, 5) := by decide +kernel
theorem f_25_5 : mj_fetch 25 5 = some (.ishl, 0, 0) := by decide +kernel
theorem f_25_6 : mj_fetch 25 6 = some (.iconst 1, 0, 0) := by decide +kernel
theorem f_25_7 : mj_fetch 25 7 = some (.isub, 0, 0) := by decide +kernel
theorem f_25_8 : mj_fetch 25 8 = some (.istore_n 2, 0, 0) := by decide +kernel
theorem f_25_9 : mj_fetch 25 9 = some (.iload_n 2, 0, 0) := by decide +kernel
theorem f_25_10 : mj_fetch 25 10 = some (.ifCond .le 70, 0, 0) := by decide +kernel
theorem f_25_13 : mj_fetch 25 13 = some (.iconst 0, 0, 0) := by decide +kernel
theorem f_25_14 : mj_fetch 25 14 = some (.istore_n 3, 0, 0) := by decide +kernel
theorem f_25_15 : mj_fetch 25 15 = some (.iload_n 3, 0, 0) := by decide +kernel
theorem f_25_16 : mj_fetch 25 16 = some (.aload_n 0, 0, 0) := by decide +kernel
theorem f_25_17 : mj_fetch 25 17 = some (.getfield 24, 2, 5) := by decide +kernel
theorem f_25_20 : mj_fetch 25 20 = some (.if_icmp .ge 54, 0, 0) := by decide +kernel
theorem f_25_23 : mj_fetch 25 23 = some (.iload_n 2, 0, 0) := by decide +kernel
theorem f_25_24 : mj_fetch 25 24 = some (.iload_n 3, 0, 0) := by decide +kernel
theorem f_25_25 : mj_fetch 25 25 = some (.ishr, 0, 0) := by decide +kernel
theorem f_25_26 : mj_fetch 25 26 = some (.iconst 1, 0, 0) := by decide +kernel
theorem f_25_27 : mj_fetch 25 27 = some (.iand, 0, 0) := by decide +kernel
theorem f_25_28 : mj_fetch 25 28 = some (.iconst 1, 0, 0) := by decide +kernel
theorem f_25_29 : mj_fetch 25 29 = some (.if_icmp .ne 39, 0, 0) := by decide +kernel
theorem f_25_32 : mj_fetch 25 32 = some (.aload_n 0, 0, 0) := by decide +kernel
theorem f_25_33 : mj_fetch 25 33 = some (.aload_n 1, 0, 0) := by decide +kernel
theorem f_25_34 : mj_fetch 25 34 = some (.iload_n 2, 0, 0) := by decide +kernel
theorem f_25_35 : mj_fetch 25 35 = some (.iload_n 3, 0, 0) := by decide +kernel
theorem f_25_36 : mj_fetch 25 36 = some (.invokevirtual 45, 26, 0) := by decide +kernel
theorem f_25_39 : mj_fetch 25 39 = some (.istore 4, 0, 0) := by decide +kernel
theorem f_25_41 : mj_fetch 25 41 = some (.aload_n 1, 0, 0) := by decide +kernel
theorem f_25_42 : mj_fetch 25 42 = some (.iload_n 2, 0, 0) := by decide +kernel
theorem f_25_43 : mj_fetch 25 43 = some (.bipush 8, 0, 0) := by decide +kernel
theorem f_25_45 : mj_fetch 25 45 = some (.imul, 0, 0) := by decide +kernel
theorem f_25_46 : mj_fetch 25 46 = some (.iload_n 3, 0, 0) := by decide +kernel
theorem f_25_47 : mj_fetch 25 47 = some (.iadd, 0, 0) := by decide +kernel
theorem f_25_48 : mj_fetch 25 48 = some (.iload 4, 0, 0) := by decide +kernel
theorem f_25_50 : mj_fetch 25 50 = some (.iconst (-1), 0, 0) := by decide +kernel
theorem f_25_51 : mj_fetch 25 51 = some (.if_icmp .ne 7, 0, 0) := by decide +kernel
theorem f_25_54 : mj_fetch 25 54 = some (.iconst 0, 0, 0) := by decide +kernel
theorem f_25_55 : mj_fetch 25 55 = some (.goto 12, 0, 0) := by decide +kernel
theorem f_25_58 : mj_fetch 25 58 = some (.aload_n 0, 0, 0) := by decide +kernel
theorem f_25_59 : mj_fetch 25 59 = some (.aload_n 1, 0, 0) := by decide +kernel
theorem f_25_60 : mj_fetch 25 60 = some (.iload_n 2, 0, 0) := by decide +kernel
theorem f_25_61 : mj_fetch 25 61 = some (.iload_n 3, 0, 0) := by decide +kernel
theorem f_25_62 : mj_fetch 25 62 = some (.iload 4, 0, 0) := by decide +kernel
theorem f_25_64 : mj_fetch 25 64 = some (.invokevirtual 60, 27, 0) := by decide +kernel
theorem f_25_67 : mj_fetch 25 67 = some (.iastore, 0, 0) := by decide +kernel
theorem f_25_68 : mj_fetch 25 68 = some (.iinc 3 1, 0, 0) := by decide +kernel
theorem f_25_71 : mj_fetch 25 71 = some (.goto (-56), 0, 0) := by decide +kernel
theorem f_25_74 : mj_fetch 25 74 = some (.iinc 2 (-1), 0, 0) := by decide +kernel
theorem f_25_77 : mj_fetch 25 77 = some (.goto (-68), 0, 0) := by decide +kernel
theorem f_25_80 : mj_fetch 25 80 = some (.return_, 0, 0) := by decide +kernel
theorem f_26_0 : mj_fetch 26 0 = some (.iconst (-1), 0, 0) := by decide +kernel
theorem f_26_1 : mj_fetch 26 1 = some (.istore 4, 0, 0) := by decide +kernel
theorem f_26_3 : mj_fetch 26 3 = some (.iconst 0, 0, 0) := by decide +kernel
theorem f_26_4 : mj_fetch 26 4 = some (.istore 5, 0, 0) := by decide +kernel
theorem f_26_6 : mj_fetch 26 6 = some (.iconst 0, 0, 0) := by decide +kernel
theorem f_26_7 : mj_fetch 26 7 = some (.istore 6, 0, 0) := by decide +kernel
theorem f_26_9 : mj_fetch 26 9 = some (.iload 6, 0, 0) := by decide +kernel
theorem f_26_11 : mj_fetch 26 11 = some (.aload_n 0, 0, 0) := by decide +kernel
theorem f_26_12 : mj_fetch 26 12 = some (.getfield 24, 2, 5) := by decide +kernel
theorem f_26_15 : mj_fetch 26 15 = some (.if_icmp .ge 54, 0, 0) := by decide +kernel
theorem f_26_18 : mj_fetch 26 18 = some (.iload_n 2, 0, 0) := by decide +kernel
theorem f_26_19 : mj_fetch 26 19 = some (.iload 6, 0, 0) := by decide +kernel
theorem f_26_21 : mj_fetch 26 21 = some (.ishr, 0, 0) := by decide +kernel
theorem f_26_22 : mj_fetch 26 22 = some (.iconst 1, 0, 0) := by decide +kernel
theorem f_26_23 : mj_fetch 26 23 = some (.iand, 0, 0) := by decide +kernel
theorem f_26_24 : mj_fetch 26 24 = some (.iconst 1, 0, 0) := by decide +kernel
theorem f_26_25 : mj_fetch 26 25 = some (.if_icmp .ne 6, 0, 0) := by decide +kernel
theorem f_26_28 : mj_fetch 26 28 = some (.goto 35, 0, 0) := by decide +kernel
theorem f_26_31 : mj_fetch 26 31 = some (.aload_n 0, 0, 0) := by decide +kernel
theorem f_26_32 : mj_fetch 26 32 = some (.aload_n 1, 0, 0) := by decide +kernel
theorem f_26_33 : mj_fetch 26 33 = some (.iload_n 2, 0, 0) := by decide +kernel
theorem f_26_34 : mj_fetch 26 34 = some (.iload_n 3, 0, 0) := by decide +kernel
theorem f_26_35 : mj_fetch 26 35 = some (.iload 6, 0, 0) := by decide +kernel
theorem f_26_37 : mj_fetch 26 37 = some (.invokevirtual 60, 27, 0) := by decide +kernel
theorem f_26_40 : mj_fetch 26 40 = some (.istore 7, 0, 0) := by decide +kernel
theorem f_26_42 : mj_fetch 26 42 = some (.iload 4, 0, 0) := by decide +kernel
theorem f_26_44 : mj_fetch 26 44 = some (.iconst (-1), 0, 0) := by decide +kernel
theorem f_26_45 : mj_fetch 26 45 = some (.if_icmp .eq 10, 0, 0) := by decide +kernel
theorem f_26_48 : mj_fetch 26 48 = some (.iload 7, 0, 0) := by decide +kernel
theorem f_26_50 : mj_fetch 26 50 = some (.iload 5, 0, 0) := by decide +kernel
theorem f_26_52 : mj_fetch 26 52 = some (.if_icmp .ge 11, 0, 0) := by decide +kernel
theorem f_26_55 : mj_fetch 26 55 = some (.iload 6, 0, 0) := by decide +kernel
theorem f_26_57 : mj_fetch 26 57 = some (.istore 4, 0, 0) := by decide +kernel
theorem f_26_59 : mj_fetch 26 59 = some (.iload 7, 0, 0) := by decide +kernel
theorem f_26_61 : mj_fetch 26 61 = some (.istore 5, 0, 0) := by decide +kernel
theorem f_26_63 : mj_fetch 26 63 = some (.iinc 6 1, 0, 0) := by decide +kernel
theorem f_26_66 : mj_fetch 26 66 = some (.goto (-57), 0, 0) := by decide +kernel
theorem f_26_69 : mj_fetch 26 69 = some (.iload 4, 0, 0) := by decide +kernel
theorem f_26_71 : mj_fetch 26 71 = some (.ireturn, 0, 0) := by decide +kernel
theorem f_27_0 : mj_fetch 27 0 = some (.aload_n 0, 0, 0) := by decide +kernel
theorem f_27_1 : mj_fetch 27 1 = some (.iload_n 3, 0, 0) := by decide +kernel
theorem f_27_2 : mj_fetch 27 2 = some (.iload 4, 0, 0) := by decide +kernel
theorem f_27_4 : mj_fetch 27 4 = some (.invokevirtual 49, 28, 0) := by decide +kernel
theorem f_27_7 : mj_fetch 27 7 = some (.aload_n 1, 0, 0) := by decide +kernel
theorem f_27_8 : mj_fetch 27 8 = some (.iload_n 2, 0, 0) := by decide +kernel
theorem f_27_9 : mj_fetch 27 9 = some (.iconst 1, 0, 0) := by decide +kernel
theorem f_27_10 : mj_fetch 27 10 = some (.iload 4, 0, 0) := by decide +kernel
theorem f_27_12 : mj_fetch 27 12 = some (.ishl, 0, 0) := by decide +kernel
theorem f_27_13 : mj_fetch 27 13 = some (.ior, 0, 0) := by decide +kernel
theorem f_27_14 : mj_fetch 27 14 = some (.bipush 8, 0, 0) := by decide +kernel
theorem f_27_16 : mj_fetch 27 16 = some (.imul, 0, 0) := by decide +kernel
theorem f_27_17 : mj_fetch 27 17 = some (.iload 4, 0, 0) := by decide +kernel
theorem f_27_19 : mj_fetch 27 19 = some (.iadd, 0, 0) := by decide +kernel
theorem f_27_20 : mj_fetch 27 20 = some (.iaload, 0, 0) := by decide +kernel
theorem f_27_21 : mj_fetch 27 21 = some (.iadd, 0, 0) := by decide +kernel
theorem f_27_22 : mj_fetch 27 22 = some (.ireturn, 0, 0) := by decide +kernel
theorem f_28_0 : mj_fetch 28 0 = some (.iload_n 1, 0, 0) := by decide +kernel
theorem f_28_1 : mj_fetch 28 1 = some (.iconst (-1), 0, 0) := by decide +kernel
theorem f_28_2 : mj_fetch 28 2 = some (.if_icmp .ne 7, 0, 0) := by decide +kernel
theorem f_28_5 : mj_fetch 28 5 = some (.iconst 0, 0, 0) := by decide +kernel
theorem f_28_6 : mj_fetch 28 6 = some (.goto 14, 0, 0) := by decide +kernel
theorem f_28_9 : mj_fetch 28 9 = some (.aload_n 0, 0, 0) := by decide +kernel
theorem f_28_10 : mj_fetch 28 10 = some (.getfield 21, 2, 3) := by decide +kernel
theorem f_28_13 : mj_fetch 28 13 = some (.iload_n 1, 0, 0) := by decide +kernel
theorem f_28_14 : mj_fetch 28 14 = some (.bipush 8, 0, 0) := by decide +kernel
theorem f_28_16 : mj_fetch 28 16 = some (.imul, 0, 0) := by decide +kernel
theorem f_28_17 : mj_fetch 28 17 = some (.iload_n 2, 0, 0) := by decide +kernel
theorem f_28_18 : mj_fetch 28 18 = some (.iadd, 0, 0) := by decide +kernel
theorem f_28_19 : mj_fetch 28 19 = some (.iaload, 0, 0) := by decide +kernel
theorem f_28_20 : mj_fetch 28 20 = some (.ireturn, 0, 0) := by decide +kernel
theorem f_29_0 : mj_fetch 29 0 = some (.aload_n 0, 0, 0) := by decide +kernel
theorem f_29_1 : mj_fetch 29 1 = some (.invokespecial 3, 0, 1) := by decide +kernel
theorem f_29_4 : mj_fetch 29 4 = some (.aload_n 0, 0, 0) := by decide +kernel
theorem f_29_5 : mj_fetch 29 5 = some (.bipush 9, 0, 0) := by decide +kernel
theorem f_29_7 : mj_fetch 29 7 = some (.newarray .int, 12, 0) := by decide +kernel
theorem f_29_9 : mj_fetch 29 9 = some (.putfield 9, 3, 2) := by decide +kernel
theorem f_29_12 : mj_fetch 29 12 = some (.aload_n 0, 0, 0) := by decide +kernel
theorem f_29_13 : mj_fetch 29 13 = some (.bipush 12, 0, 0) := by decide +kernel
theorem f_29_15 : mj_fetch 29 15 = some (.newarray .long, 13, 0) := by decide +kernel
theorem f_29_17 : mj_fetch 29 17 = some (.putfield 15, 3, 3) := by decide +kernel
theorem f_29_20 : mj_fetch 29 20 = some (.aload_n 0, 0, 0) := by decide +kernel
theorem f_29_21 : mj_fetch 29 21 = some (.bipush 12, 0, 0) := by decide +kernel
theorem f_29_23 : mj_fetch 29 23 = some (.newarray .long, 13, 0) := by decide +kernel
theorem f_29_25 : mj_fetch 29 25 = some (.putfield 19, 3, 4) := by decide +kernel
theorem f_29_28 : mj_fetch 29 28 = some (.aload_n 0, 0, 0) := by decide +kernel
theorem f_29_29 : mj_fetch 29 29 = some (.iload_n 1, 0, 0) := by decide +kernel
theorem f_29_30 : mj_fetch 29 30 = some (.putfield 22, 3, 0) := by decide +kernel
theorem f_29_33 : mj_fetch 29 33 = some (.aload_n 0, 0, 0) := by decide +kernel
theorem f_29_34 : mj_fetch 29 34 = some (.iload_n 2, 0, 0) := by decide +kernel
theorem f_29_35 : mj_fetch 29 35 = some (.putfield 26, 3, 1) := by decide +kernel
theorem f_29_38 : mj_fetch 29 38 = some (.return_, 0, 0) := by decide +kernel
theorem f_30_0 : mj_fetch 30 0 = some (.iconst 0, 0, 0) := by decide +kernel
theorem f_30_1 : mj_fetch 30 1 = some (.istore 4, 0, 0) := by decide +kernel
theorem f_30_3 : mj_fetch 30 3 = some (.iload 4, 0, 0) := by decide +kernel
theorem f_30_5 : mj_fetch 30 5 = some (.bipush 8, 0, 0) := by decide +kernel
theorem f_30_7 : mj_fetch 30 7 = some (.if_icmp .ge 35, 0, 0) := by decide +kernel
theorem f_30_10 : mj_fetch 30 10 = some (.aload_n 0, 0, 0) := by decide +kernel
theorem f_30_11 : mj_fetch 30 11 = some (.getfield 9, 3, 2) := by decide +kernel
theorem f_30_14 : mj_fetch 30 14 = some (.iload 4, 0, 0) := by decide +kernel
theorem f_30_16 : mj_fetch 30 16 = some (.iload 4, 0, 0) := by decide +kernel
theorem f_30_18 : mj_fetch 30 18 = some (.aload_n 1, 0, 0) := by decide +kernel
theorem f_30_19 : mj_fetch 30 19 = some (.getfield 29, 6, 0) := by decide +kernel
theorem f_30_22 : mj_fetch 30 22 = some (.iload 4, 0, 0) := by decide +kernel
theorem f_30_24 : mj_fetch 30 24 = some (.iaload, 0, 0) := by decide +kernel
theorem f_30_25 : mj_fetch 30 25 = some (.aload_n 2, 0, 0) := by decide +kernel
theorem f_30_26 : mj_fetch 30 26 = some (.getfield 29, 6, 0) := by decide +kernel
theorem f_30_29 : mj_fetch 30 29 = some (.iload 4, 0, 0) := by decide +kernel
theorem f_30_31 : mj_fetch 30 31 = some (.iaload, 0, 0) := by decide +kernel
theorem f_30_32 : mj_fetch 30 32 = some (.invokestatic 32, 31, 0) := by decide +kernel
theorem f_30_35 : mj_fetch 30 35 = some (.iastore, 0, 0) := by decide +kernel
theorem f_30_36 : mj_fetch 30 36 = some (.iinc 4 1, 0, 0) := by decide +kernel
theorem f_30_39 : mj_fetch 30 39 = some (.goto (-36), 0, 0) := by decide +kernel
theorem f_30_42 : mj_fetch 30 42 = some (.aload_n 0, 0, 0) := by decide +kernel
theorem f_30_43 : mj_fetch 30 43 = some (.getfield 9, 3, 2) := by decide +kernel
theorem f_30_46 : mj_fetch 30 46 = some (.bipush 8, 0, 0) := by decide +kernel
theorem f_30_48 : mj_fetch 30 48 = some (.iload_n 3, 0, 0) := by decide +kernel
theorem f_30_49 : mj_fetch 30 49 = some (.iastore, 0, 0) := by decide +kernel
theorem f_30_50 : mj_fetch 30 50 = some (.return_, 0, 0) := by decide +kernel
theorem f_31_0 : mj_fetch 31 0 = some (.iload_n 0, 0, 0) := by decide +kernel
theorem f_31_1 : mj_fetch 31 1 = some (.tableswitch 47 3 7 #[35, 47, 41, 41, 35], 0, 0) := by decide +kernel
theorem f_31_36 : mj_fetch 31 36 = some (.iload_n 1, 0, 0) := by decide +kernel
theorem f_31_37 : mj_fetch 31 37 = some (.iload_n 2, 0, 0) := by decide +kernel
theorem f_31_38 : mj_fetch 31 38 = some (.invokestatic 36, 0, 2) := by decide +kernel
theorem f_31_41 : mj_fetch 31 41 = some (.ireturn, 0, 0) := by decide +kernel
theorem f_31_42 : mj_fetch 31 42 = some (.iload_n 1, 0, 0) := by decide +kernel
theorem f_31_43 : mj_fetch 31 43 = some (.iload_n 2, 0, 0) := by decide +kernel
theorem f_31_44 : mj_fetch 31 44 = some (.invokestatic 42, 0, 3) := by decide +kernel
theorem f_31_47 : mj_fetch 31 47 = some (.ireturn, 0, 0) := by decide +kernel
theorem f_31_48 : mj_fetch 31 48 = some (.iload_n 1, 0, 0) := by decide +kernel
theorem f_31_49 : mj_fetch 31 49 = some (.iload_n 2, 0, 0) := by decide +kernel
theorem f_31_50 : mj_fetch 31 50 = some (.iadd, 0, 0) := by decide +kernel
theorem f_31_51 : mj_fetch 31 51 = some (.iconst 2, 0, 0) := by decide +kernel
theorem f_31_52 : mj_fetch 31 52 = some (.idiv, 0, 0) := by decide +kernel
theorem f_31_53 : mj_fetch 31 53 = some (.ireturn, 0, 0) := by decide +kernel
theorem f_32_0 : mj_fetch 32 0 = some (.aload_n 0, 0, 0) := by decide +kernel
theorem f_32_1 : mj_fetch 32 1 = some (.getfield 22, 3, 0) := by decide +kernel
theorem f_32_4 : mj_fetch 32 4 = some (.iload_n 1, 0, 0) := by decide +kernel
theorem f_32_5 : mj_fetch 32 5 = some (.if_icmp .eq 11, 0, 0) := by decide +kernel
theorem f_32_8 : mj_fetch 32 8 = some (.aload_n 0, 0, 0) := by decide +kernel
theorem f_32_9 : mj_fetch 32 9 = some (.getfield 26, 3, 1) := by decide +kernel
theorem f_32_12 : mj_fetch 32 12 = some (.iload_n 1, 0, 0) := by decide +kernel
theorem f_32_13 : mj_fetch 32 13 = some (.if_icmp .ne 7, 0, 0) := by decide +kernel
theorem f_32_16 : mj_fetch 32 16 = some (.iconst 1, 0, 0) := by decide +kernel
theorem f_32_17 : mj_fetch 32 17 = some (.goto 4, 0, 0) := by decide +kernel
theorem f_32_20 : mj_fetch 32 20 = some (.iconst 0, 0, 0) := by decide +kernel
theorem f_32_21 : mj_fetch 32 21 = some (.ireturn, 0, 0) := by decide +kernel
theorem f_33_0 : mj_fetch 33 0 = some (.aload_n 0, 0, 0) := by decide +kernel
theorem f_33_1 : mj_fetch 33 1 = some (.getfield 15, 3, 3) := by decide +kernel
theorem f_33_4 : mj_fetch 33 4 = some (.iload_n 1, 0, 0) := by decide +kernel
theorem f_33_5 : mj_fetch 33 5 = some (.bipush 64, 0, 0) := by decide +kernel
theorem f_33_7 : mj_fetch 33 7 = some (.idiv, 0, 0) := by decide +kernel
theorem f_33_8 : mj_fetch 33 8 = some (.laload, 0, 0) := by decide +kernel
theorem f_33_9 : mj_fetch 33 9 = some (.iload_n 1, 0, 0) := by decide +kernel
theorem f_33_10 : mj_fetch 33 10 = some (.bipush 64, 0, 0) := by decide +kernel
theorem f_33_12 : mj_fetch 33 12 = some (.irem, 0, 0) := by decide +kernel
theorem f_33_13 : mj_fetch 33 13 = some (.lshr, 0, 0) := by decide +kernel
theorem f_33_14 : mj_fetch 33 14 = some (.lconst 1, 0, 0) := by decide +kernel
theorem f_33_15 : mj_fetch 33 15 = some (.land, 0, 0) := by decide +kernel
theorem f_33_16 : mj_fetch 33 16 = some (.lconst 1, 0, 0) := by decide +kernel
theorem f_33_17 : mj_fetch 33 17 = some (.lcmp, 0, 0) := by decide +kernel
theorem f_33_18 : mj_fetch 33 18 = some (.ifCond .ne 7, 0, 0) := by decide +kernel
theorem f_33_21 : mj_fetch 33 21 = some (.iconst 1, 0, 0) := by decide +kernel
theorem f_33_22 : mj_fetch 33 22 = some (.goto 4, 0, 0) := by decide +kernel
theorem f_33_25 : mj_fetch 33 25 = some (.iconst 0, 0, 0) := by decide +kernel
theorem f_33_26 : mj_fetch 33 26 = some (.ireturn, 0, 0) := by decide +kernel
theorem f_34_0 : mj_fetch 34 0 = some (.aload_n 0, 0, 0) := by decide +kernel
theorem f_34_1 : mj_fetch 34 1 = some (.getfield 19, 3, 4) := by decide +kernel
theorem f_34_4 : mj_fetch 34 4 = some (.iload_n 1, 0, 0) := by decide +kernel
theorem f_34_5 : mj_fetch 34 5 = some (.bipush 64, 0, 0) := by decide +kernel
theorem f_34_7 : mj_fetch 34 7 = some (.idiv, 0, 0) := by decide +kernel
theorem f_34_8 : mj_fetch 34 8 = some (.laload, 0, 0) := by decide +kernel
theorem f_34_9 : mj_fetch 34 9 = some (.iload_n 1, 0, 0) := by decide +kernel
theorem f_34_10 : mj_fetch 34 10 = some (.bipush 64, 0, 0) := by decide +kernel
theorem f_34_12 : mj_fetch 34 12 = some (.irem, 0, 0) := by decide +kernel
theorem f_34_13 : mj_fetch 34 13 = some (.lshr, 0, 0) := by decide +kernel
theorem f_34_14 : mj_fetch 34 14 = some (.lconst 1, 0, 0) := by decide +kernel
theorem f_34_15 : mj_fetch 34 15 = some (.land, 0, 0) := by decide +kernel
theorem f_34_16 : mj_fetch 34 16 = some (.lconst 1, 0, 0) := by decide +kernel
theorem f_34_17 : mj_fetch 34 17 = some (.lcmp, 0, 0) := by decide +kernel
theorem f_34_18 : mj_fetch 34 18 = some (.ifCond .ne 7, 0, 0) := by decide +kernel
theorem f_34_21 : mj_fetch 34 21 = some (.iconst 1, 0, 0) := by decide +kernel
theorem f_34_22 : mj_fetch 34 22 = some (.goto 4, 0, 0) := by decide +kernel
theorem f_34_25 : mj_fetch 34 25 = some (.iconst 0, 0, 0) := by decide +kernel
theorem f_34_26 : mj_fetch 34 26 = some (.ireturn, 0, 0) := by decide +kernel
theorem f_35_0 : mj_fetch 35 0 = some (.aload_n 0, 0, 0) := by decide +kernel
theorem f_35_1 : mj_fetch 35 1 = some (.getfield 15, 3, 3) := by decide +kernel
theorem f_35_4 : mj_fetch 35 4 = some (.iload_n 1, 0, 0) := by decide +kernel
theorem f_35_5 : mj_fetch 35 5 = some (.bipush 64, 0, 0) := by decide +kernel
theorem f_35_7 : mj_fetch 35 7 = some (.idiv, 0, 0) := by decide +kernel
theorem f_35_8 : mj_fetch 35 8 = some (.dup2, 0, 0) := by decide +kernel
theorem f_35_9 : mj_fetch 35 9 = some (.laload, 0, 0) := by decide +kernel
theorem f_35_10 : mj_fetch 35 10 = some (.lconst 1, 0, 0) := by decide +kernel
theorem f_35_11 : mj_fetch 35 11 = some (.iload_n 1, 0, 0) := by decide +kernel
theorem f_35_12 : mj_fetch 35 12 = some (.bipush 64, 0, 0) := by decide +kernel
theorem f_35_14 : mj_fetch 35 14 = some (.irem, 0, 0) := by decide +kernel
theorem f_35_15 : mj_fetch 35 15 = some (.lshl, 0, 0) := by decide +kernel
theorem f_35_16 : mj_fetch 35 16 = some (.lor, 0, 0) := by decide +kernel
theorem f_35_17 : mj_fetch 35 17 = some (.lastore, 0, 0) := by decide +kernel
theorem f_35_18 : mj_fetch 35 18 = some (.iload_n 2, 0, 0) := by decide +kernel
theorem f_35_19 : mj_fetch 35 19 = some (.ifCond .eq 21, 0, 0) := by decide +kernel
theorem f_35_22 : mj_fetch 35 22 = some (.aload_n 0, 0, 0) := by decide +kernel
theorem f_35_23 : mj_fetch 35 23 = some (.getfield 19, 3, 4) := by decide +kernel
theorem f_35_26 : mj_fetch 35 26 = some (.iload_n 1, 0, 0) := by decide +kernel
theorem f_35_27 : mj_fetch 35 27 = some (.bipush 64, 0, 0) := by decide +kernel
theorem f_35_29 : mj_fetch 35 29 = some (.idiv, 0, 0) := by decide +kernel
theorem f_35_30 : mj_fetch 35 30 = some (.dup2, 0, 0) := by decide +kernel
theorem f_35_31 : mj_fetch 35 31 = some (.laload, 0, 0) := by decide +kernel
theorem f_35_32 : mj_fetch 35 32 = some (.lconst 1, 0, 0) := by decide +kernel
theorem f_35_33 : mj_fetch 35 33 = some (.iload_n 1, 0, 0) := by decide +kernel
theorem f_35_34 : mj_fetch 35 34 = some (.bipush 64, 0, 0) := by decide +kernel
theorem f_35_36 : mj_fetch 35 36 = some (.irem, 0, 0) := by decide +kernel
theorem f_35_37 : mj_fetch 35 37 = some (.lshl, 0, 0) := by decide +kernel
theorem f_35_38 : mj_fetch 35 38 = some (.lor, 0, 0) := by decide +kernel
theorem f_35_39 : mj_fetch 35 39 = some (.lastore, 0, 0) := by decide +kernel
theorem f_35_40 : mj_fetch 35 40 = some (.return_, 0, 0) := by decide +kernel
theorem f_36_0 : mj_fetch 36 0 = some (.aload_n 0, 0, 0) := by decide +kernel
theorem f_36_1 : mj_fetch 36 1 = some (.invokespecial 1, 0, 1) := by decide +kernel
theorem f_36_4 : mj_fetch 36 4 = some (.aload_n 0, 0, 0) := by decide +kernel
theorem f_36_5 : mj_fetch 36 5 = some (.aload_n 1, 0, 0) := by decide +kernel
theorem f_36_6 : mj_fetch 36 6 = some (.putfield 7, 4, 0) := by decide +kernel
theorem f_36_9 : mj_fetch 36 9 = some (.aload_n 0, 0, 0) := by decide +kernel
theorem f_36_10 : mj_fetch 36 10 = some (.iload_n 2, 0, 0) := by decide +kernel
theorem f_36_11 : mj_fetch 36 11 = some (.putfield 13, 4, 1) := by decide +kernel
theorem f_36_14 : mj_fetch 36 14 = some (.aload_n 0, 0, 0) := by decide +kernel
theorem f_36_15 : mj_fetch 36 15 = some (.iload_n 3, 0, 0) := by decide +kernel
theorem f_36_16 : mj_fetch 36 16 = some (.putfield 17, 4, 2) := by decide +kernel
theorem f_36_19 : mj_fetch 36 19 = some (.return_, 0, 0) := by decide +kernel
theorem f_37_0 : mj_fetch 37 0 = some (.aload_n 0, 0, 0) := by decide +kernel
theorem f_37_1 : mj_fetch 37 1 = some (.invokespecial 1, 0, 1) := by decide +kernel
theorem f_37_4 : mj_fetch 37 4 = some (.aload_n 0, 0, 0) := by decide +kernel
theorem f_37_5 : mj_fetch 37 5 = some (.sipush 9261, 0, 0) := by decide +kernel
theorem f_37_8 : mj_fetch 37 8 = some (.newarray .int, 12, 0) := by decide +kernel
theorem f_37_10 : mj_fetch 37 10 = some (.putfield 9, 5, 0) := by decide +kernel
theorem f_37_13 : mj_fetch 37 13 = some (.return_, 0, 0) := by decide +kernel
theorem f_38_0 : mj_fetch 38 0 = some (.aload_n 2, 0, 0) := by decide +kernel
theorem f_38_1 : mj_fetch 38 1 = some (.iconst 0, 0, 0) := by decide +kernel
theorem f_38_2 : mj_fetch 38 2 = some (.invokestatic 13, 44, 0) := by decide +kernel
theorem f_38_5 : mj_fetch 38 5 = some (.istore_n 3, 0, 0) := by decide +kernel
theorem f_38_6 : mj_fetch 38 6 = some (.aload_n 2, 0, 0) := by decide +kernel
theorem f_38_7 : mj_fetch 38 7 = some (.iconst 1, 0, 0) := by decide +kernel
theorem f_38_8 : mj_fetch 38 8 = some (.invokestatic 13, 44, 0) := by decide +kernel
theorem f_38_11 : mj_fetch 38 11 = some (.istore 4, 0, 0) := by decide +kernel
theorem f_38_13 : mj_fetch 38 13 = some (.aload_n 2, 0, 0) := by decide +kernel
theorem f_38_14 : mj_fetch 38 14 = some (.iconst 2, 0, 0) := by decide +kernel
theorem f_38_15 : mj_fetch 38 15 = some (.invokestatic 13, 44, 0) := by decide +kernel
theorem f_38_18 : mj_fetch 38 18 = some (.istore 5, 0, 0) := by decide +kernel
theorem f_38_20 : mj_fetch 38 20 = some (.iconst 0, 0, 0) := by decide +kernel
theorem f_38_21 : mj_fetch 38 21 = some (.istore 6, 0, 0) := by decide +kernel
theorem f_38_23 : mj_fetch 38 23 = some (.iload 6, 0, 0) := by decide +kernel
theorem f_38_25 : mj_fetch 38 25 = some (.iload_n 3, 0, 0) := by decide +kernel
theorem f_38_26 : mj_fetch 38 26 = some (.if_icmp .ge 152, 0, 0) := by decide +kernel
theorem f_38_29 : mj_fetch 38 29 = some (.iconst 0, 0, 0) := by decide +kernel
theorem f_38_30 : mj_fetch 38 30 = some (.istore 7, 0, 0) := by decide +kernel
theorem f_38_32 : mj_fetch 38 32 = some (.iload 7, 0, 0) := by decide +kernel
theorem f_38_34 : mj_fetch 38 34 = some (.iload 4, 0, 0) := by decide +kernel
theorem f_38_36 : mj_fetch 38 36 = some (.if_icmp .ge 136, 0, 0) := by decide +kernel
theorem f_38_39 : mj_fetch 38 39 = some (.iconst 0, 0, 0) := by decide +kernel
theorem f_38_40 : mj_fetch 38 40 = some (.istore 8, 0, 0) := by decide +kernel
theorem f_38_42 : mj_fetch 38 42 = some (.iload 8, 0, 0) := by decide +kernel
theorem f_38_44 : mj_fetch 38 44 = some (.iload 5, 0, 0) := by decide +kernel
theorem f_38_46 : mj_fetch 38 46 = some (.if_icmp .ge 120, 0, 0) := by decide +kernel
theorem f_38_49 : mj_fetch 38 49 = some (.iload 6, 0, 0) := by decide +kernel
theorem f_38_51 : mj_fetch 38 51 = some (.iload 7, 0, 0) := by decide +kernel
theorem f_38_53 : mj_fetch 38 53 = some (.iload 8, 0, 0) := by decide +kernel
theorem f_38_55 : mj_fetch 38 55 = some (.invokestatic 17, 47, 0) := by decide +kernel
theorem f_38_58 : mj_fetch 38 58 = some (.istore 9, 0, 0) := by decide +kernel
theorem f_38_60 : mj_fetch 38 60 = some (.getstatic 21, 6, 0) := by decide +kernel
theorem f_38_63 : mj_fetch 38 63 = some (.iload 6, 0, 0) := by decide +kernel
theorem f_38_65 : mj_fetch 38 65 = some (.iaload, 0, 0) := by decide +kernel
theorem f_38_66 : mj_fetch 38 66 = some (.getstatic 21, 6, 0) := by decide +kernel
theorem f_38_69 : mj_fetch 38 69 = some (.iload 7, 0, 0) := by decide +kernel
theorem f_38_71 : mj_fetch 38 71 = some (.iaload, 0, 0) := by decide +kernel
theorem f_38_72 : mj_fetch 38 72 = some (.iadd, 0, 0) := by decide +kernel
theorem f_38_73 : mj_fetch 38 73 = some (.getstatic 21, 6, 0) := by decide +kernel
theorem f_38_76 : mj_fetch 38 76 = some (.iload 8, 0, 0) := by decide +kernel
theorem f_38_78 : mj_fetch 38 78 = some (.iaload, 0, 0) := by decide +kernel
theorem f_38_79 : mj_fetch 38 79 = some (.iadd, 0, 0) := by decide +kernel
theorem f_38_80 : mj_fetch 38 80 = some (.ifCond .le 25, 0, 0) := by decide +kernel
theorem f_38_83 : mj_fetch 38 83 = some (.aload_n 0, 0, 0) := by decide +kernel
theorem f_38_84 : mj_fetch 38 84 = some (.getfield 9, 5, 0) := by decide +kernel
theorem f_38_87 : mj_fetch 38 87 = some (.iload 9, 0, 0) := by decide +kernel
theorem f_38_89 : mj_fetch 38 89 = some (.aload_n 0, 0, 0) := by decide +kernel
theorem f_38_90 : mj_fetch 38 90 = some (.iload 9, 0, 0) := by decide +kernel
theorem f_38_92 : mj_fetch 38 92 = some (.iload 6, 0, 0) := by decide +kernel
theorem f_38_94 : mj_fetch 38 94 = some (.iload 7, 0, 0) := by decide +kernel
theorem f_38_96 : mj_fetch 38 96 = some (.iload 8, 0, 0) := by decide +kernel
theorem f_38_98 : mj_fetch 38 98 = some (.invokevirtual 24, 39, 0) := by decide +kernel
theorem f_38_101 : mj_fetch 38 101 = some (.iastore, 0, 0) := by decide +kernel
theorem f_38_102 : mj_fetch 38 102 = some (.goto 58, 0, 0) := by decide +kernel
theorem f_38_105 : mj_fetch 38 105 = some (.aload_n 2, 0, 0) := by decide +kernel
theorem f_38_106 : mj_fetch 38 106 = some (.getfield 28, 9, 1) := by decide +kernel
theorem f_38_109 : mj_fetch 38 109 = some (.getstatic 34, 5, 0) := by decide +kernel
theorem f_38_112 : mj_fetch 38 112 = some (.iload 6, 0, 0) := by decide +kernel
theorem f_38_114 : mj_fetch 38 114 = some (.iaload, 0, 0) := by decide +kernel
theorem f_38_115 : mj_fetch 38 115 = some (.getstatic 34, 5, 0) := by decide +kernel
theorem f_38_118 : mj_fetch 38 118 = some (.iload 7, 0, 0) := by decide +kernel
theorem f_38_120 : mj_fetch 38 120 = some (.iaload, 0, 0) := by decide +kernel
theorem f_38_121 : mj_fetch 38 121 = some (.getstatic 34, 5, 0) := by decide +kernel
theorem f_38_124 : mj_fetch 38 124 = some (.iload 8, 0, 0) := by decide +kernel
theorem f_38_126 : mj_fetch 38 126 = some (.iaload, 0, 0) := by decide +kernel
theorem f_38_127 : mj_fetch 38 127 = some (.invokestatic 37, 48, 0) := by decide +kernel
theorem f_38_130 : mj_fetch 38 130 = some (.iadd, 0, 0) := by decide +kernel
theorem f_38_131 : mj_fetch 38 131 = some (.istore 10, 0, 0) := by decide +kernel
theorem f_38_133 : mj_fetch 38 133 = some (.aload_n 0, 0, 0) := by decide +kernel
theorem f_38_134 : mj_fetch 38 134 = some (.getfield 9, 5, 0) := by decide +kernel
theorem f_38_137 : mj_fetch 38 137 = some (.iload 9, 0, 0) := by decide +kernel
theorem f_38_139 : mj_fetch 38 139 = some (.aload_n 1, 0, 0) := by decide +kernel
theorem f_38_140 : mj_fetch 38 140 = some (.aload_n 2, 0, 0) := by decide +kernel
theorem f_38_141 : mj_fetch 38 141 = some (.getfield 40, 9, 0) := by decide +kernel
theorem f_38_144 : mj_fetch 38 144 = some (.iload 10, 0, 0) := by decide +kernel
theorem f_38_146 : mj_fetch 38 146 = some (.invokevirtual 44, 1, 0) := by decide +kernel
theorem f_38_149 : mj_fetch 38 149 = some (.ifCond .eq 8, 0, 0) := by decide +kernel
theorem f_38_152 : mj_fetch 38 152 = some (.bipush 32, 0, 0) := by decide +kernel
theorem f_38_154 : mj_fetch 38 154 = some (.goto 5, 0, 0) := by decide +kernel
theorem f_38_157 : mj_fetch 38 157 = some (.bipush 33, 0, 0) := by decide +kernel
theorem f_38_159 : mj_fetch 38 159 = some (.iastore, 0, 0) := by decide +kernel
theorem f_38_160 : mj_fetch 38 160 = some (.iinc 8 1, 0, 0) := by decide +kernel
theorem f_38_163 : mj_fetch 38 163 = some (.goto (-121), 0, 0) := by decide +kernel
theorem f_38_166 : mj_fetch 38 166 = some (.iinc 7 1, 0, 0) := by decide +kernel
theorem f_38_169 : mj_fetch 38 169 = some (.goto (-137), 0, 0) := by decide +kernel
theorem f_38_172 : mj_fetch 38 172 = some (.iinc 6 1, 0, 0) := by decide +kernel
theorem f_38_175 : mj_fetch 38 175 = some (.goto (-152), 0, 0) := by decide +kernel
theorem f_38_178 : mj_fetch 38 178 = some (.return_, 0, 0) := by decide +kernel
theorem f_39_0 : mj_fetch 39 0 = some (.aload_n 0, 0, 0) := by decide +kernel
theorem f_39_1 : mj_fetch 39 1 = some (.iconst 0, 0, 0) := by decide +kernel
theorem f_39_2 : mj_fetch 39 2 = some (.iload_n 1, 0, 0) := by decide +kernel
theorem f_39_3 : mj_fetch 39 3 = some (.iload_n 2, 0, 0) := by decide +kernel
theorem f_39_4 : mj_fetch 39 4 = some (.sipush 32000, 0, 0) := by decide +kernel
theorem f_39_7 : mj_fetch 39 7 = some (.invokevirtual 50, 40, 0) := by decide +kernel
theorem f_39_10 : mj_fetch 39 10 = some (.istore 5, 0, 0) := by decide +kernel
theorem f_39_12 : mj_fetch 39 12 = some (.aload_n 0, 0, 0) := by decide +kernel
theorem f_39_13 : mj_fetch 39 13 = some (.iconst 1, 0, 0) := by decide +kernel
theorem f_39_14 : mj_fetch 39 14 = some (.iload_n 1, 0, 0) := by decide +kernel
theorem f_39_15 : mj_fetch 39 15 = some (.iload_n 3, 0, 0) := by decide +kernel
theorem f_39_16 : mj_fetch 39 16 = some (.iload 5, 0, 0) := by decide +kernel
theorem f_39_18 : mj_fetch 39 18 = some (.invokevirtual 50, 40, 0) := by decide +kernel
theorem f_39_21 : mj_fetch 39 21 = some (.istore 5, 0, 0) := by decide +kernel
theorem f_39_23 : mj_fetch 39 23 = some (.aload_n 0, 0, 0) := by decide +kernel
theorem f_39_24 : mj_fetch 39 24 = some (.iconst 2, 0, 0) := by decide +kernel
theorem f_39_25 : mj_fetch 39 25 = some (.iload_n 1, 0, 0) := by decide +kernel
theorem f_39_26 : mj_fetch 39 26 = some (.iload 4, 0, 0) := by decide +kernel
theorem f_39_28 : mj_fetch 39 28 = some (.iload 5, 0, 0) := by decide +kernel
theorem f_39_30 : mj_fetch 39 30 = some (.invokevirtual 50, 40, 0) := by decide +kernel
theorem f_39_33 : mj_fetch 39 33 = some (.ireturn, 0, 0) := by decide +kernel
theorem f_40_0 : mj_fetch 40 0 = some (.iload 4, 0, 0) := by decide +kernel
theorem f_40_2 : mj_fetch 40 2 = some (.istore 5, 0, 0) := by decide +kernel
theorem f_40_4 : mj_fetch 40 4 = some (.getstatic 53, 3, 0) := by decide +kernel
theorem f_40_7 : mj_fetch 40 7 = some (.iload_n 1, 0, 0) := by decide +kernel
theorem f_40_8 : mj_fetch 40 8 = some (.iaload, 0, 0) := by decide +kernel
theorem f_40_9 : mj_fetch 40 9 = some (.istore 6, 0, 0) := by decide +kernel
theorem f_40_11 : mj_fetch 40 11 = some (.getstatic 34, 5, 0) := by decide +kernel
theorem f_40_14 : mj_fetch 40 14 = some (.iload_n 3, 0, 0) := by decide +kernel
theorem f_40_15 : mj_fetch 40 15 = some (.iaload, 0, 0) := by decide +kernel
theorem f_40_16 : mj_fetch 40 16 = some (.getstatic 21, 6, 0) := by decide +kernel
theorem f_40_19 : mj_fetch 40 19 = some (.iload_n 3, 0, 0) := by decide +kernel
theorem f_40_20 : mj_fetch 40 20 = some (.iaload, 0, 0) := by decide +kernel
theorem f_40_21 : mj_fetch 40 21 = some (.isub, 0, 0) := by decide +kernel
theorem f_40_22 : mj_fetch 40 22 = some (.istore 7, 0, 0) := by decide +kernel
theorem f_40_24 : mj_fetch 40 24 = some (.iconst 1, 0, 0) := by decide +kernel
theorem f_40_25 : mj_fetch 40 25 = some (.istore 8, 0, 0) := by decide +kernel
theorem f_40_27 : mj_fetch 40 27 = some (.iload 8, 0, 0) := by decide +kernel
theorem f_40_29 : mj_fetch 40 29 = some (.getstatic 21, 6, 0) := by decide +kernel
theorem f_40_32 : mj_fetch 40 32 = some (.iload_n 3, 0, 0) := by decide +kernel
theorem f_40_33 : mj_fetch 40 33 = some (.iaload, 0, 0) := by decide +kernel
theorem f_40_34 : mj_fetch 40 34 = some (.if_icmp .gt 123, 0, 0) := by decide +kernel
theorem f_40_37 : mj_fetch 40 37 = some (.iload 5, 0, 0) := by decide +kernel
theorem f_40_39 : mj_fetch 40 39 = some (.bipush 96, 0, 0) := by decide +kernel
theorem f_40_41 : mj_fetch 40 41 = some (.if_icmp .lt 116, 0, 0) := by decide +kernel
theorem f_40_44 : mj_fetch 40 44 = some (.getstatic 56, 4, 0) := by decide +kernel
theorem f_40_47 : mj_fetch 40 47 = some (.iload 7, 0, 0) := by decide +kernel
theorem f_40_49 : mj_fetch 40 49 = some (.iload 8, 0, 0) := by decide +kernel
theorem f_40_51 : mj_fetch 40 51 = some (.iadd, 0, 0) := by decide +kernel
theorem f_40_52 : mj_fetch 40 52 = some (.iconst 1, 0, 0) := by decide +kernel
theorem f_40_53 : mj_fetch 40 53 = some (.isub, 0, 0) := by decide +kernel
theorem f_40_54 : mj_fetch 40 54 = some (.iaload, 0, 0) := by decide +kernel
theorem f_40_55 : mj_fetch 40 55 = some (.iload 8, 0, 0) := by decide +kernel
theorem f_40_57 : mj_fetch 40 57 = some (.iadd, 0, 0) := by decide +kernel
theorem f_40_58 : mj_fetch 40 58 = some (.iconst 1, 0, 0) := by decide +kernel
theorem f_40_59 : mj_fetch 40 59 = some (.isub, 0, 0) := by decide +kernel
theorem f_40_60 : mj_fetch 40 60 = some (.istore 9, 0, 0) := by decide +kernel
theorem f_40_62 : mj_fetch 40 62 = some (.aload_n 0, 0, 0) := by decide +kernel
theorem f_40_63 : mj_fetch 40 63 = some (.getfield 9, 5, 0) := by decide +kernel
theorem f_40_66 : mj_fetch 40 66 = some (.iload_n 2, 0, 0) := by decide +kernel
theorem f_40_67 : mj_fetch 40 67 = some (.iload_n 3, 0, 0) := by decide +kernel
theorem f_40_68 : mj_fetch 40 68 = some (.iload 9, 0, 0) := by decide +kernel
theorem f_40_70 : mj_fetch 40 70 = some (.isub, 0, 0) := by decide +kernel
theorem f_40_71 : mj_fetch 40 71 = some (.iload 6, 0, 0) := by decide +kernel
theorem f_40_73 : mj_fetch 40 73 = some (.imul, 0, 0) := by decide +kernel
theorem f_40_74 : mj_fetch 40 74 = some (.isub, 0, 0) := by decide +kernel
theorem f_40_75 : mj_fetch 40 75 = some (.iaload, 0, 0) := by decide +kernel
theorem f_40_76 : mj_fetch 40 76 = some (.istore 10, 0, 0) := by decide +kernel
theorem f_40_78 : mj_fetch 40 78 = some (.aload_n 0, 0, 0) := by decide +kernel
theorem f_40_79 : mj_fetch 40 79 = some (.getfield 9, 5, 0) := by decide +kernel
theorem f_40_82 : mj_fetch 40 82 = some (.iload_n 2, 0, 0) := by decide +kernel
theorem f_40_83 : mj_fetch 40 83 = some (.iload 8, 0, 0) := by decide +kernel
theorem f_40_85 : mj_fetch 40 85 = some (.iload 6, 0, 0) := by decide +kernel
theorem f_40_87 : mj_fetch 40 87 = some (.imul, 0, 0) := by decide +kernel
theorem f_40_88 : mj_fetch 40 88 = some (.isub, 0, 0) := by decide +kernel
theorem f_40_89 : mj_fetch 40 89 = some (.iaload, 0, 0) := by decide +kernel
theorem f_40_90 : mj_fetch 40 90 = some (.istore 11, 0, 0) := by decide +kernel
theorem f_40_92 : mj_fetch 40 92 = some (.iload 10, 0, 0) := by decide +kernel
theorem f_40_94 : mj_fetch 40 94 = some (.iload 11, 0, 0) := by decide +kernel
theorem f_40_96 : mj_fetch 40 96 = some (.if_icmp .ne 13, 0, 0) := by decide +kernel
theorem f_40_99 : mj_fetch 40 99 = some (.iload 10, 0, 0) := by decide +kernel
theorem f_40_101 : mj_fetch 40 101 = some (.bipush 64, 0, 0) := by decide +kernel
theorem f_40_103 : mj_fetch 40 103 = some (.if_icmp .ge 6, 0, 0) := by decide +kernel
theorem f_40_106 : mj_fetch 40 106 = some (.iload 10, 0, 0) := by decide +kernel
theorem f_40_108 : mj_fetch 40 108 = some (.ireturn, 0, 0) := by decide +kernel
theorem f_40_109 : mj_fetch 40 109 = some (.iload 10, 0, 0) := by decide +kernel
theorem f_40_111 : mj_fetch 40 111 = some (.bipush 32, 0, 0) := by decide +kernel
theorem f_40_113 : mj_fetch 40 113 = some (.idiv, 0, 0) := by decide +kernel
theorem f_40_114 : mj_fetch 40 114 = some (.iload 11, 0, 0) := by decide +kernel
theorem f_40_116 : mj_fetch 40 116 = some (.bipush 32, 0, 0) := by decide +kernel
theorem f_40_118 : mj_fetch 40 118 = some (.idiv, 0, 0) := by decide +kernel
theorem f_40_119 : mj_fetch 40 119 = some (.iadd, 0, 0) := by decide +kernel
theorem f_40_120 : mj_fetch 40 120 = some (.istore 12, 0, 0) := by decide +kernel
theorem f_40_122 : mj_fetch 40 122 = some (.iload 12, 0, 0) := by decide +kernel
theorem f_40_124 : mj_fetch 40 124 = some (.iload 5, 0, 0) := by decide +kernel
theorem f_40_126 : mj_fetch 40 126 = some (.bipush 32, 0, 0) := by decide +kernel
theorem f_40_128 : mj_fetch 40 128 = some (.idiv, 0, 0) := by decide +kernel
theorem f_40_129 : mj_fetch 40 129 = some (.if_icmp .ge 22, 0, 0) := by decide +kernel
theorem f_40_132 : mj_fetch 40 132 = some (.iload 12, 0, 0) := by decide +kernel
theorem f_40_134 : mj_fetch 40 134 = some (.bipush 32, 0, 0) := by decide +kernel
theorem f_40_136 : mj_fetch 40 136 = some (.imul, 0, 0) := by decide +kernel
theorem f_40_137 : mj_fetch 40 137 = some (.iconst 2, 0, 0) := by decide +kernel
theorem f_40_138 : mj_fetch 40 138 = some (.iadd, 0, 0) := by decide +kernel
theorem f_40_139 : mj_fetch 40 139 = some (.bipush 8, 0, 0) := by decide +kernel
theorem f_40_141 : mj_fetch 40 141 = some (.iload_n 1, 0, 0) := by decide +kernel
theorem f_40_142 : mj_fetch 40 142 = some (.imul, 0, 0) := by decide +kernel
theorem f_40_143 : mj_fetch 40 143 = some (.iadd, 0, 0) := by decide +kernel
theorem f_40_144 : mj_fetch 40 144 = some (.iload 8, 0, 0) := by decide +kernel
theorem f_40_146 : mj_fetch 40 146 = some (.iadd, 0, 0) := by decide +kernel
theorem f_40_147 : mj_fetch 40 147 = some (.iconst 1, 0, 0) := by decide +kernel
theorem f_40_148 : mj_fetch 40 148 = some (.isub, 0, 0) := by decide +kernel
theorem f_40_149 : mj_fetch 40 149 = some (.istore 5, 0, 0) := by decide +kernel
theorem f_40_151 : mj_fetch 40 151 = some (.iinc 8 1, 0, 0) := by decide +kernel
theorem f_40_154 : mj_fetch 40 154 = some (.goto (-127), 0, 0) := by decide +kernel
theorem f_40_157 : mj_fetch 40 157 = some (.iload 5, 0, 0) := by decide +kernel
theorem f_40_159 : mj_fetch 40 159 = some (.ireturn, 0, 0) := by decide +kernel
theorem f_41_0 : mj_fetch 41 0 = some (.aload_n 0, 0, 0) := by decide +kernel
theorem f_41_1 : mj_fetch 41 1 = some (.getfield 9, 5, 0) := by decide +kernel
theorem f_41_4 : mj_fetch 41 4 = some (.aload_n 2, 0, 0) := by decide +kernel
theorem f_41_5 : mj_fetch 41 5 = some (.aload_n 2, 0, 0) := by decide +kernel
theorem f_41_6 : mj_fetch 41 6 = some (.getfield 28, 9, 1) := by decide +kernel
theorem f_41_9 : mj_fetch 41 9 = some (.aload_n 2, 0, 0) := by decide +kernel
theorem f_41_10 : mj_fetch 41 10 = some (.getfield 61, 9, 2) := by decide +kernel
theorem f_41_13 : mj_fetch 41 13 = some (.invokestatic 64, 46, 0) := by decide +kernel
theorem f_41_16 : mj_fetch 41 16 = some (.iaload, 0, 0) := by decide +kernel
theorem f_41_17 : mj_fetch 41 17 = some (.bipush 32, 0, 0) := by decide +kernel
theorem f_41_19 : mj_fetch 41 19 = some (.idiv, 0, 0) := by decide +kernel
theorem f_41_20 : mj_fetch 41 20 = some (.istore_n 3, 0, 0) := by decide +kernel
theorem f_41_21 : mj_fetch 41 21 = some (.iconst 2, 0, 0) := by decide +kernel
theorem f_41_22 : mj_fetch 41 22 = some (.iload_n 3, 0, 0) := by decide +kernel
theorem f_41_23 : mj_fetch 41 23 = some (.imul, 0, 0) := by decide +kernel
theorem f_41_24 : mj_fetch 41 24 = some (.iconst 1, 0, 0) := by decide +kernel
theorem f_41_25 : mj_fetch 41 25 = some (.isub, 0, 0) := by decide +kernel
theorem f_41_26 : mj_fetch 41 26 = some (.iconst 0, 0, 0) := by decide +kernel
theorem f_41_27 : mj_fetch 41 27 = some (.invokestatic 68, 0, 3) := by decide +kernel
theorem f_41_30 : mj_fetch 41 30 = some (.newarray .int, 12, 0) := by decide +kernel
theorem f_41_32 : mj_fetch 41 32 = some (.astore 4, 0, 0) := by decide +kernel
theorem f_41_34 : mj_fetch 41 34 = some (.aload_n 1, 0, 0) := by decide +kernel
theorem f_41_35 : mj_fetch 41 35 = some (.aload_n 2, 0, 0) := by decide +kernel
theorem f_41_36 : mj_fetch 41 36 = some (.getfield 28, 9, 1) := by decide +kernel
theorem f_41_39 : mj_fetch 41 39 = some (.aload_n 2, 0, 0) := by decide +kernel
theorem f_41_40 : mj_fetch 41 40 = some (.getfield 61, 9, 2) := by decide +kernel
theorem f_41_43 : mj_fetch 41 43 = some (.invokevirtual 74, 59, 0) := by decide +kernel
theorem f_41_46 : mj_fetch 41 46 = some (.iconst 0, 0, 0) := by decide +kernel
theorem f_41_47 : mj_fetch 41 47 = some (.istore 5, 0, 0) := by decide +kernel
theorem f_41_49 : mj_fetch 41 49 = some (.iload 5, 0, 0) := by decide +kernel
theorem f_41_51 : mj_fetch 41 51 = some (.aload 4, 0, 0) := by decide +kernel
theorem f_41_53 : mj_fetch 41 53 = some (.arraylength, 0, 0) := by decide +kernel
theorem f_41_54 : mj_fetch 41 54 = some (.if_icmp .ge 50, 0, 0) := by decide +kernel
theorem f_41_57 : mj_fetch 41 57 = some (.aload_n 1, 0, 0) := by decide +kernel
theorem f_41_58 : mj_fetch 41 58 = some (.invokevirtual 78, 61, 0) := by decide +kernel
theorem f_41_61 : mj_fetch 41 61 = some (.ifCond .eq 43, 0, 0) := by decide +kernel
theorem f_41_64 : mj_fetch 41 64 = some (.aload 4, 0, 0) := by decide +kernel
theorem f_41_66 : mj_fetch 41 66 = some (.iload 5, 0, 0) := by decide +kernel
theorem f_41_68 : mj_fetch 41 68 = some (.aload_n 0, 0, 0) := by decide +kernel
theorem f_41_69 : mj_fetch 41 69 = some (.getfield 9, 5, 0) := by decide +kernel
theorem f_41_72 : mj_fetch 41 72 = some (.aload_n 2, 0, 0) := by decide +kernel
theorem f_41_73 : mj_fetch 41 73 = some (.aload_n 1, 0, 0) := by decide +kernel
theorem f_41_74 : mj_fetch 41 74 = some (.getfield 82, 8, 3) := by decide +kernel
theorem f_41_77 : mj_fetch 41 77 = some (.aload_n 1, 0, 0) := by decide +kernel
theorem f_41_78 : mj_fetch 41 78 = some (.getfield 83, 8, 4) := by decide +kernel
theorem f_41_81 : mj_fetch 41 81 = some (.invokestatic 64, 46, 0) := by decide +kernel
theorem f_41_84 : mj_fetch 41 84 = some (.iaload, 0, 0) := by decide +kernel
theorem f_41_85 : mj_fetch 41 85 = some (.bipush 32, 0, 0) := by decide +kernel
theorem f_41_87 : mj_fetch 41 87 = some (.irem, 0, 0) := by decide +kernel
theorem f_41_88 : mj_fetch 41 88 = some (.iastore, 0, 0) := by decide +kernel
theorem f_41_89 : mj_fetch 41 89 = some (.aload_n 1, 0, 0) := by decide +kernel
theorem f_41_90 : mj_fetch 41 90 = some (.aload 4, 0, 0) := by decide +kernel
theorem f_41_92 : mj_fetch 41 92 = some (.iload 5, 0, 0) := by decide +kernel
theorem f_41_94 : mj_fetch 41 94 = some (.iaload, 0, 0) := by decide +kernel
theorem f_41_95 : mj_fetch 41 95 = some (.invokevirtual 84, 63, 0) := by decide +kernel
theorem f_41_98 : mj_fetch 41 98 = some (.iinc 5 1, 0, 0) := by decide +kernel
theorem f_41_101 : mj_fetch 41 101 = some (.goto (-52), 0, 0) := by decide +kernel
theorem f_41_104 : mj_fetch 41 104 = some (.aload 4, 0, 0) := by decide +kernel
theorem f_41_106 : mj_fetch 41 106 = some (.areturn, 0, 0) := by decide +kernel
theorem f_42_0 : mj_fetch 42 0 = some (.aload_n 1, 0, 0) := by decide +kernel
theorem f_42_1 : mj_fetch 42 1 = some (.iconst 0, 0, 0) := by decide +kernel
theorem f_42_2 : mj_fetch 42 2 = some (.invokestatic 13, 44, 0) := by decide +kernel
theorem f_42_5 : mj_fetch 42 5 = some (.istore_n 2, 0, 0) := by decide +kernel
theorem f_42_6 : mj_fetch 42 6 = some (.aload_n 1, 0, 0) := by decide +kernel
theorem f_42_7 : mj_fetch 42 7 = some (.iconst 1, 0, 0) := by decide +kernel
theorem f_42_8 : mj_fetch 42 8 = some (.invokestatic 13, 44, 0) := by decide +kernel
theorem f_42_11 : mj_fetch 42 11 = some (.istore_n 3, 0, 0) := by decide +kernel
theorem f_42_12 : mj_fetch 42 12 = some (.aload_n 1, 0, 0) := by decide +kernel
theorem f_42_13 : mj_fetch 42 13 = some (.iconst 2, 0, 0) := by decide +kernel
theorem f_42_14 : mj_fetch 42 14 = some (.invokestatic 13, 44, 0) := by decide +kernel
theorem f_42_17 : mj_fetch 42 17 = some (.istore 4, 0, 0) := by decide +kernel
theorem f_42_19 : mj_fetch 42 19 = some (.iconst 0, 0, 0) := by decide +kernel
theorem f_42_20 : mj_fetch 42 20 = some (.istore 5, 0, 0) := by decide +kernel
theorem f_42_22 : mj_fetch 42 22 = some (.iload 5, 0, 0) := by decide +kernel
theorem f_42_24 : mj_fetch 42 24 = some (.iload_n 2, 0, 0) := by decide +kernel
theorem f_42_25 : mj_fetch 42 25 = some (.if_icmp .ge 69, 0, 0) := by decide +kernel
theorem f_42_28 : mj_fetch 42 28 = some (.iconst 0, 0, 0) := by decide +kernel
theorem f_42_29 : mj_fetch 42 29 = some (.istore 6, 0, 0) := by decide +kernel
theorem f_42_31 : mj_fetch 42 31 = some (.iload 6, 0, 0) := by decide +kernel
theorem f_42_33 : mj_fetch 42 33 = some (.iload_n 3, 0, 0) := by decide +kernel
theorem f_42_34 : mj_fetch 42 34 = some (.if_icmp .ge 54, 0, 0) := by decide +kernel
theorem f_42_37 : mj_fetch 42 37 = some (.iconst 0, 0, 0) := by decide +kernel
theorem f_42_38 : mj_fetch 42 38 = some (.istore 7, 0, 0) := by decide +kernel
theorem f_42_40 : mj_fetch 42 40 = some (.iload 7, 0, 0) := by decide +kernel
theorem f_42_42 : mj_fetch 42 42 = some (.iload 4, 0, 0) := by decide +kernel
theorem f_42_44 : mj_fetch 42 44 = some (.if_icmp .ge 38, 0, 0) := by decide +kernel
theorem f_42_47 : mj_fetch 42 47 = some (.aload_n 0, 0, 0) := by decide +kernel
theorem f_42_48 : mj_fetch 42 48 = some (.getfield 9, 5, 0) := by decide +kernel
theorem f_42_51 : mj_fetch 42 51 = some (.iload 5, 0, 0) := by decide +kernel
theorem f_42_53 : mj_fetch 42 53 = some (.iload 6, 0, 0) := by decide +kernel
theorem f_42_55 : mj_fetch 42 55 = some (.iload 7, 0, 0) := by decide +kernel
theorem f_42_57 : mj_fetch 42 57 = some (.invokestatic 17, 47, 0) := by decide +kernel
theorem f_42_60 : mj_fetch 42 60 = some (.iaload, 0, 0) := by decide +kernel
theorem f_42_61 : mj_fetch 42 61 = some (.bipush 32, 0, 0) := by decide +kernel
theorem f_42_63 : mj_fetch 42 63 = some (.if_icmp .ne 13, 0, 0) := by decide +kernel
theorem f_42_66 : mj_fetch 42 66 = some (.aload_n 1, 0, 0) := by decide +kernel
theorem f_42_67 : mj_fetch 42 67 = some (.iload 5, 0, 0) := by decide +kernel
theorem f_42_69 : mj_fetch 42 69 = some (.iload 6, 0, 0) := by decide +kernel
theorem f_42_71 : mj_fetch 42 71 = some (.iload 7, 0, 0) := by decide +kernel
theorem f_42_73 : mj_fetch 42 73 = some (.invokestatic 88, 43, 0) := by decide +kernel
theorem f_42_76 : mj_fetch 42 76 = some (.iinc 7 1, 0, 0) := by decide +kernel
theorem f_42_79 : mj_fetch 42 79 = some (.goto (-39), 0, 0) := by decide +kernel
theorem f_42_82 : mj_fetch 42 82 = some (.iinc 6 1, 0, 0) := by decide +kernel
theorem f_42_85 : mj_fetch 42 85 = some (.goto (-54), 0, 0) := by decide +kernel
theorem f_42_88 : mj_fetch 42 88 = some (.iinc 5 1, 0, 0) := by decide +kernel
theorem f_42_91 : mj_fetch 42 91 = some (.goto (-69), 0, 0) := by decide +kernel
theorem f_42_94 : mj_fetch 42 94 = some (.return_, 0, 0) := by decide +kernel
theorem f_43_0 : mj_fetch 43 0 = some (.getstatic 21, 6, 0) := by decide +kernel
theorem f_43_3 : mj_fetch 43 3 = some (.iload_n 1, 0, 0) := by decide +kernel
theorem f_43_4 : mj_fetch 43 4 = some (.iaload, 0, 0) := by decide +kernel
theorem f_43_5 : mj_fetch 43 5 = some (.iconst 1, 0, 0) := by decide +kernel
theorem f_43_6 : mj_fetch 43 6 = some (.iadd, 0, 0) := by decide +kernel
theorem f_43_7 : mj_fetch 43 7 = some (.getstatic 21, 6, 0) := by decide +kernel
theorem f_43_10 : mj_fetch 43 10 = some (.iload_n 2, 0, 0) := by decide +kernel
theorem f_43_11 : mj_fetch 43 11 = some (.iaload, 0, 0) := by decide +kernel
theorem f_43_12 : mj_fetch 43 12 = some (.iconst 1, 0, 0) := by decide +kernel
theorem f_43_13 : mj_fetch 43 13 = some (.iadd, 0, 0) := by decide +kernel
theorem f_43_14 : mj_fetch 43 14 = some (.imul, 0, 0) := by decide +kernel
theorem f_43_15 : mj_fetch 43 15 = some (.getstatic 21, 6, 0) := by decide +kernel
theorem f_43_18 : mj_fetch 43 18 = some (.iload_n 3, 0, 0) := by decide +kernel
theorem f_43_19 : mj_fetch 43 19 = some (.iaload, 0, 0) := by decide +kernel
theorem f_43_20 : mj_fetch 43 20 = some (.iconst 1, 0, 0) := by decide +kernel
theorem f_43_21 : mj_fetch 43 21 = some (.iadd, 0, 0) := by decide +kernel
theorem f_43_22 : mj_fetch 43 22 = some (.imul, 0, 0) := by decide +kernel
theorem f_43_23 : mj_fetch 43 23 = some (.istore 4, 0, 0) := by decide +kernel
theorem f_43_25 : mj_fetch 43 25 = some (.iload 4, 0, 0) := by decide +kernel
theorem f_43_27 : mj_fetch 43 27 = some (.aload_n 0, 0, 0) := by decide +kernel
theorem f_43_28 : mj_fetch 43 28 = some (.getfield 92, 9, 6) := by decide +kernel
theorem f_43_31 : mj_fetch 43 31 = some (.if_icmp .ge 4, 0, 0) := by decide +kernel
theorem f_43_34 : mj_fetch 43 34 = some (.return_, 0, 0) := by decide +kernel
theorem f_43_35 : mj_fetch 43 35 = some (.aload_n 0, 0, 0) := by decide +kernel
theorem f_43_36 : mj_fetch 43 36 = some (.getfield 28, 9, 1) := by decide +kernel
theorem f_43_39 : mj_fetch 43 39 = some (.getstatic 34, 5, 0) := by decide +kernel
theorem f_43_42 : mj_fetch 43 42 = some (.iload_n 1, 0, 0) := by decide +kernel
theorem f_43_43 : mj_fetch 43 43 = some (.iaload, 0, 0) := by decide +kernel
theorem f_43_44 : mj_fetch 43 44 = some (.getstatic 34, 5, 0) := by decide +kernel
theorem f_43_47 : mj_fetch 43 47 = some (.iload_n 2, 0, 0) := by decide +kernel
theorem f_43_48 : mj_fetch 43 48 = some (.iaload, 0, 0) := by decide +kernel
theorem f_43_49 : mj_fetch 43 49 = some (.getstatic 34, 5, 0) := by decide +kernel
theorem f_43_52 : mj_fetch 43 52 = some (.iload_n 3, 0, 0) := by decide +kernel
theorem f_43_53 : mj_fetch 43 53 = some (.iaload, 0, 0) := by decide +kernel
theorem f_43_54 : mj_fetch 43 54 = some (.invokestatic 37, 48, 0) := by decide +kernel
theorem f_43_57 : mj_fetch 43 57 = some (.iadd, 0, 0) := by decide +kernel
theorem f_43_58 : mj_fetch 43 58 = some (.istore 5, 0, 0) := by decide +kernel
theorem f_43_60 : mj_fetch 43 60 = some (.iload 5, 0, 0) := by decide +kernel
theorem f_43_62 : mj_fetch 43 62 = some (.getstatic 21, 6, 0) := by decide +kernel
theorem f_43_65 : mj_fetch 43 65 = some (.iload_n 1, 0, 0) := by decide +kernel
theorem f_43_66 : mj_fetch 43 66 = some (.iaload, 0, 0) := by decide +kernel
theorem f_43_67 : mj_fetch 43 67 = some (.getstatic 21, 6, 0) := by decide +kernel
theorem f_43_70 : mj_fetch 43 70 = some (.iload_n 2, 0, 0) := by decide +kernel
theorem f_43_71 : mj_fetch 43 71 = some (.iaload, 0, 0) := by decide +kernel
theorem f_43_72 : mj_fetch 43 72 = some (.getstatic 21, 6, 0) := by decide +kernel
theorem f_43_75 : mj_fetch 43 75 = some (.iload_n 3, 0, 0) := by decide +kernel
theorem f_43_76 : mj_fetch 43 76 = some (.iaload, 0, 0) := by decide +kernel
theorem f_43_77 : mj_fetch 43 77 = some (.invokestatic 37, 48, 0) := by decide +kernel
theorem f_43_80 : mj_fetch 43 80 = some (.isub, 0, 0) := by decide +kernel
theorem f_43_81 : mj_fetch 43 81 = some (.istore 6, 0, 0) := by decide +kernel
theorem f_43_83 : mj_fetch 43 83 = some (.iload 6, 0, 0) := by decide +kernel
theorem f_43_85 : mj_fetch 43 85 = some (.aload_n 0, 0, 0) := by decide +kernel
theorem f_43_86 : mj_fetch 43 86 = some (.getfield 95, 9, 4) := by decide +kernel
theorem f_43_89 : mj_fetch 43 89 = some (.if_icmp .lt 21, 0, 0) := by decide +kernel
theorem f_43_92 : mj_fetch 43 92 = some (.iload 6, 0, 0) := by decide +kernel
theorem f_43_94 : mj_fetch 43 94 = some (.aload_n 0, 0, 0) := by decide +kernel
theorem f_43_95 : mj_fetch 43 95 = some (.getfield 95, 9, 4) := by decide +kernel
theorem f_43_98 : mj_fetch 43 98 = some (.if_icmp .ne 16, 0, 0) := by decide +kernel
theorem f_43_101 : mj_fetch 43 101 = some (.iload 5, 0, 0) := by decide +kernel
theorem f_43_103 : mj_fetch 43 103 = some (.aload_n 0, 0, 0) := by decide +kernel
theorem f_43_104 : mj_fetch 43 104 = some (.getfield 98, 9, 5) := by decide +kernel
theorem f_43_107 : mj_fetch 43 107 = some (.if_icmp .ge 7, 0, 0) := by decide +kernel
theorem f_43_110 : mj_fetch 43 110 = some (.iconst 1, 0, 0) := by decide +kernel
theorem f_43_111 : mj_fetch 43 111 = some (.goto 4, 0, 0) := by decide +kernel
theorem f_43_114 : mj_fetch 43 114 = some (.iconst 0, 0, 0) := by decide +kernel
theorem f_43_115 : mj_fetch 43 115 = some (.istore 7, 0, 0) := by decide +kernel
theorem f_43_117 : mj_fetch 43 117 = some (.iload 4, 0, 0) := by decide +kernel
theorem f_43_119 : mj_fetch 43 119 = some (.aload_n 0, 0, 0) := by decide +kernel
theorem f_43_120 : mj_fetch 43 120 = some (.getfield 92, 9, 6) := by decide +kernel
theorem f_43_123 : mj_fetch 43 123 = some (.if_icmp .gt 8, 0, 0) := by decide +kernel
theorem f_43_126 : mj_fetch 43 126 = some (.iload 7, 0, 0) := by decide +kernel
theorem f_43_128 : mj_fetch 43 128 = some (.ifCond .eq 21, 0, 0) := by decide +kernel
theorem f_43_131 : mj_fetch 43 131 = some (.aload_n 0, 0, 0) := by decide +kernel
theorem f_43_132 : mj_fetch 43 132 = some (.iload 4, 0, 0) := by decide +kernel
theorem f_43_134 : mj_fetch 43 134 = some (.putfield 92, 9, 6) := by decide +kernel
theorem f_43_137 : mj_fetch 43 137 = some (.aload_n 0, 0, 0) := by decide +kernel
theorem f_43_138 : mj_fetch 43 138 = some (.iload 6, 0, 0) := by decide +kernel
theorem f_43_140 : mj_fetch 43 140 = some (.putfield 95, 9, 4) := by decide +kernel
theorem f_43_143 : mj_fetch 43 143 = some (.aload_n 0, 0, 0) := by decide +kernel
theorem f_43_144 : mj_fetch 43 144 = some (.iload 5, 0, 0) := by decide +kernel
theorem f_43_146 : mj_fetch 43 146 = some (.putfield 98, 9, 5) := by decide +kernel
theorem f_43_149 : mj_fetch 43 149 = some (.return_, 0, 0) := by decide +kernel
theorem f_44_0 : mj_fetch 44 0 = some (.getstatic 56, 4, 0) := by decide +kernel
theorem f_44_3 : mj_fetch 44 3 = some (.aload_n 0, 0, 0) := by decide +kernel
theorem f_44_4 : mj_fetch 44 4 = some (.getfield 61, 9, 2) := by decide +kernel
theorem f_44_7 : mj_fetch 44 7 = some (.iload_n 1, 0, 0) := by decide +kernel
theorem f_44_8 : mj_fetch 44 8 = some (.invokestatic 101, 108, 0) := by decide +kernel
theorem f_44_11 : mj_fetch 44 11 = some (.aload_n 0, 0, 0) := by decide +kernel
theorem f_44_12 : mj_fetch 44 12 = some (.getfield 28, 9, 1) := by decide +kernel
theorem f_44_15 : mj_fetch 44 15 = some (.iload_n 1, 0, 0) := by decide +kernel
theorem f_44_16 : mj_fetch 44 16 = some (.invokestatic 101, 108, 0) := by decide +kernel
theorem f_44_19 : mj_fetch 44 19 = some (.isub, 0, 0) := by decide +kernel
theorem f_44_20 : mj_fetch 44 20 = some (.iconst 1, 0, 0) := by decide +kernel
theorem f_44_21 : mj_fetch 44 21 = some (.iadd, 0, 0) := by decide +kernel
theorem f_44_22 : mj_fetch 44 22 = some (.iaload, 0, 0) := by decide +kernel
theorem f_44_23 : mj_fetch 44 23 = some (.ireturn, 0, 0) := by decide +kernel
theorem f_45_0 : mj_fetch 45 0 = some (.iload_n 2, 0, 0) := by decide +kernel
theorem f_45_1 : mj_fetch 45 1 = some (.iload_n 3, 0, 0) := by decide +kernel
theorem f_45_2 : mj_fetch 45 2 = some (.invokestatic 101, 108, 0) := by decide +kernel
theorem f_45_5 : mj_fetch 45 5 = some (.aload_n 0, 0, 0) := by decide +kernel
theorem f_45_6 : mj_fetch 45 6 = some (.getfield 28, 9, 1) := by decide +kernel
theorem f_45_9 : mj_fetch 45 9 = some (.iload_n 3, 0, 0) := by decide +kernel
theorem f_45_10 : mj_fetch 45 10 = some (.invokestatic 101, 108, 0) := by decide +kernel
theorem f_45_13 : mj_fetch 45 13 = some (.isub, 0, 0) := by decide +kernel
theorem f_45_14 : mj_fetch 45 14 = some (.istore 4, 0, 0) := by decide +kernel
theorem f_45_16 : mj_fetch 45 16 = some (.getstatic 56, 4, 0) := by decide +kernel
theorem f_45_19 : mj_fetch 45 19 = some (.iload 4, 0, 0) := by decide +kernel
theorem f_45_21 : mj_fetch 45 21 = some (.iaload, 0, 0) := by decide +kernel
theorem f_45_22 : mj_fetch 45 22 = some (.iload_n 2, 0, 0) := by decide +kernel
theorem f_45_23 : mj_fetch 45 23 = some (.iload_n 3, 0, 0) := by decide +kernel
theorem f_45_24 : mj_fetch 45 24 = some (.invokestatic 101, 108, 0) := by decide +kernel
theorem f_45_27 : mj_fetch 45 27 = some (.iadd, 0, 0) := by decide +kernel
theorem f_45_28 : mj_fetch 45 28 = some (.iload_n 1, 0, 0) := by decide +kernel
theorem f_45_29 : mj_fetch 45 29 = some (.iload_n 3, 0, 0) := by decide +kernel
theorem f_45_30 : mj_fetch 45 30 = some (.invokestatic 101, 108, 0) := by decide +kernel
theorem f_45_33 : mj_fetch 45 33 = some (.isub, 0, 0) := by decide +kernel
theorem f_45_34 : mj_fetch 45 34 = some (.ireturn, 0, 0) := by decide +kernel
theorem f_46_0 : mj_fetch 46 0 = some (.aload_n 0, 0, 0) := by decide +kernel
theorem f_46_1 : mj_fetch 46 1 = some (.iload_n 1, 0, 0) := by decide +kernel
theorem f_46_2 : mj_fetch 46 2 = some (.iload_n 2, 0, 0) := by decide +kernel
theorem f_46_3 : mj_fetch 46 3 = some (.iconst 0, 0, 0) := by decide +kernel
theorem f_46_4 : mj_fetch 46 4 = some (.invokestatic 106, 45, 0) := by decide +kernel
theorem f_46_7 : mj_fetch 46 7 = some (.aload_n 0, 0, 0) := by decide +kernel
theorem f_46_8 : mj_fetch 46 8 = some (.iload_n 1, 0, 0) := by decide +kernel
theorem f_46_9 : mj_fetch 46 9 = some (.iload_n 2, 0, 0) := by decide +kernel
theorem f_46_10 : mj_fetch 46 10 = some (.iconst 1, 0, 0) := by decide +kernel
theorem f_46_11 : mj_fetch 46 11 = some (.invokestatic 106, 45, 0) := by decide +kernel
theorem f_46_14 : mj_fetch 46 14 = some (.aload_n 0, 0, 0) := by decide +kernel
theorem f_46_15 : mj_fetch 46 15 = some (.iload_n 1, 0, 0) := by decide +kernel
theorem f_46_16 : mj_fetch 46 16 = some (.iload_n 2, 0, 0) := by decide +kernel
theorem f_46_17 : mj_fetch 46 17 = some (.iconst 2, 0, 0) := by decide +kernel
theorem f_46_18 : mj_fetch 46 18 = some (.invokestatic 106, 45, 0) := by decide +kernel
theorem f_46_21 : mj_fetch 46 21 = some (.invokestatic 17, 47, 0) := by decide +kernel
theorem f_46_24 : mj_fetch 46 24 = some (.ireturn, 0, 0) := by decide +kernel
theorem f_47_0 : mj_fetch 47 0 = some (.iload_n 0, 0, 0) := by decide +kernel
theorem f_47_1 : mj_fetch 47 1 = some (.bipush 21, 0, 0) := by decide +kernel
theorem f_47_3 : mj_fetch 47 3 = some (.imul, 0, 0) := by decide +kernel
theorem f_47_4 : mj_fetch 47 4 = some (.iload_n 1, 0, 0) := by decide +kernel
theorem f_47_5 : mj_fetch 47 5 = some (.iadd, 0, 0) := by decide +kernel
theorem f_47_6 : mj_fetch 47 6 = some (.bipush 21, 0, 0) := by decide +kernel
theorem f_47_8 : mj_fetch 47 8 = some (.imul, 0, 0) := by decide +kernel
theorem f_47_9 : mj_fetch 47 9 = some (.iload_n 2, 0, 0) := by decide +kernel
theorem f_47_10 : mj_fetch 47 10 = some (.iadd, 0, 0) := by decide +kernel
theorem f_47_11 : mj_fetch 47 11 = some (.ireturn, 0, 0) := by decide +kernel
theorem f_48_0 : mj_fetch 48 0 = some (.iload_n 0, 0, 0) := by decide +kernel
theorem f_48_1 : mj_fetch 48 1 = some (.getstatic 110, 2, 0) := by decide +kernel
theorem f_48_4 : mj_fetch 48 4 = some (.iconst 0, 0, 0) := by decide +kernel
theorem f_48_5 : mj_fetch 48 5 = some (.iaload, 0, 0) := by decide +kernel
theorem f_48_6 : mj_fetch 48 6 = some (.imul, 0, 0) := by decide +kernel
theorem f_48_7 : mj_fetch 48 7 = some (.iload_n 1, 0, 0) := by decide +kernel
theorem f_48_8 : mj_fetch 48 8 = some (.getstatic 110, 2, 0) := by decide +kernel
theorem f_48_11 : mj_fetch 48 11 = some (.iconst 1, 0, 0) := by decide +kernel
theorem f_48_12 : mj_fetch 48 12 = some (.iaload, 0, 0) := by decide +kernel
theorem f_48_13 : mj_fetch 48 13 = some (.imul, 0, 0) := by decide +kernel
theorem f_48_14 : mj_fetch 48 14 = some (.iadd, 0, 0) := by decide +kernel
theorem f_48_15 : mj_fetch 48 15 = some (.iload_n 2, 0, 0) := by decide +kernel
theorem f_48_16 : mj_fetch 48 16 = some (.getstatic 110, 2, 0) := by decide +kernel
theorem f_48_19 : mj_fetch 48 19 = some (.iconst 2, 0, 0) := by decide +kernel
theorem f_48_20 : mj_fetch 48 20 = some (.iaload, 0, 0) := by decide +kernel
theorem f_48_21 : mj_fetch 48 21 = some (.imul, 0, 0) := by decide +kernel
theorem f_48_22 : mj_fetch 48 22 = some (.iadd, 0, 0) := by decide +kernel
theorem f_48_23 : mj_fetch 48 23 = some (.ireturn, 0, 0) := by decide +kernel
theorem f_49_0 : mj_fetch 49 0 = some (.aload_n 0, 0, 0) := by decide +kernel
theorem f_49_1 : mj_fetch 49 1 = some (.invokespecial 1, 0, 1) := by decide +kernel
theorem f_49_4 : mj_fetch 49 4 = some (.aload_n 0, 0, 0) := by decide +kernel
theorem f_49_5 : mj_fetch 49 5 = some (.aload_n 1, 0, 0) := by decide +kernel
theorem f_49_6 : mj_fetch 49 6 = some (.putfield 7, 6, 0) := by decide +kernel
theorem f_49_9 : mj_fetch 49 9 = some (.return_, 0, 0) := by decide +kernel
theorem f_50_0 : mj_fetch 50 0 = some (.aload_n 0, 0, 0) := by decide +kernel
theorem f_50_1 : mj_fetch 50 1 = some (.getfield 13, 6, 1) := by decide +kernel
theorem f_50_4 : mj_fetch 50 4 = some (.iload_n 1, 0, 0) := by decide +kernel
theorem f_50_5 : mj_fetch 50 5 = some (.ishr, 0, 0) := by decide +kernel
theorem f_50_6 : mj_fetch 50 6 = some (.iconst 1, 0, 0) := by decide +kernel
theorem f_50_7 : mj_fetch 50 7 = some (.iand, 0, 0) := by decide +kernel
theorem f_50_8 : mj_fetch 50 8 = some (.iconst 1, 0, 0) := by decide +kernel
theorem f_50_9 : mj_fetch 50 9 = some (.if_icmp .ne 7, 0, 0) := by decide +kernel
theorem f_50_12 : mj_fetch 50 12 = some (.iconst 1, 0, 0) := by decide +kernel
theorem f_50_13 : mj_fetch 50 13 = some (.goto 4, 0, 0) := by decide +kernel
theorem f_50_16 : mj_fetch 50 16 = some (.iconst 0, 0, 0) := by decide +kernel
theorem f_50_17 : mj_fetch 50 17 = some (.ireturn, 0, 0) := by decide +kernel
theorem f_51_0 : mj_fetch 51 0 = some (.aload_n 0, 0, 0) := by decide +kernel
theorem f_51_1 : mj_fetch 51 1 = some (.dup, 0, 0) := by decide +kernel
theorem f_51_2 : mj_fetch 51 2 = some (.getfield 13, 6, 1) := by decide +kernel
theorem f_51_5 : mj_fetch 51 5 = some (.iconst 1, 0, 0) := by decide +kernel
theorem f_51_6 : mj_fetch 51 6 = some (.iload_n 1, 0, 0) := by decide +kernel
theorem f_51_7 : mj_fetch 51 7 = some (.ishl, 0, 0) := by decide +kernel
theorem f_51_8 : mj_fetch 51 8 = some (.ior, 0, 0) := by decide +kernel
theorem f_51_9 : mj_fetch 51 9 = some (.putfield 13, 6, 1) := by decide +kernel
theorem f_51_12 : mj_fetch 51 12 = some (.return_, 0, 0) := by decide +kernel
theorem f_52_0 : mj_fetch 52 0 = some (.aload_n 0, 0, 0) := by decide +kernel
theorem f_52_1 : mj_fetch 52 1 = some (.invokespecial 1, 0, 1) := by decide +kernel
theorem f_52_4 : mj_fetch 52 4 = some (.aload_n 0, 0, 0) := by decide +kernel
theorem f_52_5 : mj_fetch 52 5 = some (.sipush 500, 0, 0) := by decide +kernel
theorem f_52_8 : mj_fetch 52 8 = some (.newarray .int, 12, 0) := by decide +kernel
theorem f_52_10 : mj_fetch 52 10 = some (.putfield 9, 7, 0) := by decide +kernel
theorem f_52_13 : mj_fetch 52 13 = some (.return_, 0, 0) := by decide +kernel
theorem f_53_0 : mj_fetch 53 0 = some (.iload_n 1, 0, 0) := by decide +kernel
theorem f_53_1 : mj_fetch 53 1 = some (.invokestatic 13, 57, 0) := by decide +kernel
theorem f_53_4 : mj_fetch 53 4 = some (.ifCond .eq 13, 0, 0) := by decide +kernel
theorem f_53_7 : mj_fetch 53 7 = some (.aload_n 0, 0, 0) := by decide +kernel
theorem f_53_8 : mj_fetch 53 8 = some (.getfield 17, 7, 1) := by decide +kernel
theorem f_53_11 : mj_fetch 53 11 = some (.sipush 500, 0, 0) := by decide +kernel
theorem f_53_14 : mj_fetch 53 14 = some (.if_icmp .ne 5, 0, 0) := by decide +kernel
theorem f_53_17 : mj_fetch 53 17 = some (.iconst 0, 0, 0) := by decide +kernel
theorem f_53_18 : mj_fetch 53 18 = some (.ireturn, 0, 0) := by decide +kernel
theorem f_53_19 : mj_fetch 53 19 = some (.aload_n 0, 0, 0) := by decide +kernel
theorem f_53_20 : mj_fetch 53 20 = some (.getfield 9, 7, 0) := by decide +kernel
theorem f_53_23 : mj_fetch 53 23 = some (.aload_n 0, 0, 0) := by decide +kernel
theorem f_53_24 : mj_fetch 53 24 = some (.getfield 17, 7, 1) := by decide +kernel
theorem f_53_27 : mj_fetch 53 27 = some (.iload_n 1, 0, 0) := by decide +kernel
theorem f_53_28 : mj_fetch 53 28 = some (.iastore, 0, 0) := by decide +kernel
theorem f_53_29 : mj_fetch 53 29 = some (.aload_n 0, 0, 0) := by decide +kernel
theorem f_53_30 : mj_fetch 53 30 = some (.dup, 0, 0) := by decide +kernel
theorem f_53_31 : mj_fetch 53 31 = some (.getfield 17, 7, 1) := by decide +kernel
theorem f_53_34 : mj_fetch 53 34 = some (.iconst 1, 0, 0) := by decide +kernel
theorem f_53_35 : mj_fetch 53 35 = some (.iadd, 0, 0) := by decide +kernel
theorem f_53_36 : mj_fetch 53 36 = some (.putfield 17, 7, 1) := by decide +kernel
theorem f_53_39 : mj_fetch 53 39 = some (.iconst 1, 0, 0) := by decide +kernel
theorem f_53_40 : mj_fetch 53 40 = some (.ireturn, 0, 0) := by decide +kernel
theorem f_54_0 : mj_fetch 54 0 = some (.iload_n 1, 0, 0) := by decide +kernel
theorem f_54_1 : mj_fetch 54 1 = some (.ifCond .lt 18, 0, 0) := by decide +kernel
theorem f_54_4 : mj_fetch 54 4 = some (.iload_n 1, 0, 0) := by decide +kernel
theorem f_54_5 : mj_fetch 54 5 = some (.aload_n 0, 0, 0) := by decide +kernel
theorem f_54_6 : mj_fetch 54 6 = some (.getfield 17, 7, 1) := by decide +kernel
theorem f_54_9 : mj_fetch 54 9 = some (.if_icmp .ge 10, 0, 0) := by decide +kernel
theorem f_54_12 : mj_fetch 54 12 = some (.iload_n 2, 0, 0) := by decide +kernel
theorem f_54_13 : mj_fetch 54 13 = some (.invokestatic 13, 57, 0) := by decide +kernel
theorem f_54_16 : mj_fetch 54 16 = some (.ifCond .ne 5, 0, 0) := by decide +kernel
theorem f_54_19 : mj_fetch 54 19 = some (.iconst 0, 0, 0) := by decide +kernel
theorem f_54_20 : mj_fetch 54 20 = some (.ireturn, 0, 0) := by decide +kernel
theorem f_54_21 : mj_fetch 54 21 = some (.aload_n 0, 0, 0) := by decide +kernel
theorem f_54_22 : mj_fetch 54 22 = some (.getfield 9, 7, 0) := by decide +kernel
theorem f_54_25 : mj_fetch 54 25 = some (.iload_n 1, 0, 0) := by decide +kernel
theorem f_54_26 : mj_fetch 54 26 = some (.iload_n 2, 0, 0) := by decide +kernel
theorem f_54_27 : mj_fetch 54 27 = some (.iastore, 0, 0) := by decide +kernel
theorem f_54_28 : mj_fetch 54 28 = some (.iconst 1, 0, 0) := by decide +kernel
theorem f_54_29 : mj_fetch 54 29 = some (.ireturn, 0, 0) := by decide +kernel
theorem f_55_0 : mj_fetch 55 0 = some (.iload_n 1, 0, 0) := by decide +kernel
theorem f_55_1 : mj_fetch 55 1 = some (.ifCond .lt 11, 0, 0) := by decide +kernel
theorem f_55_4 : mj_fetch 55 4 = some (.iload_n 1, 0, 0) := by decide +kernel
theorem f_55_5 : mj_fetch 55 5 = some (.aload_n 0, 0, 0) := by decide +kernel
theorem f_55_6 : mj_fetch 55 6 = some (.getfield 17, 7, 1) := by decide +kernel
theorem f_55_9 : mj_fetch 55 9 = some (.if_icmp .le 5, 0, 0) := by decide +kernel
theorem f_55_12 : mj_fetch 55 12 = some (.iconst 0, 0, 0) := by decide +kernel
theorem f_55_13 : mj_fetch 55 13 = some (.ireturn, 0, 0) := by decide +kernel
theorem f_55_14 : mj_fetch 55 14 = some (.aload_n 0, 0, 0) := by decide +kernel
theorem f_55_15 : mj_fetch 55 15 = some (.iload_n 1, 0, 0) := by decide +kernel
theorem f_55_16 : mj_fetch 55 16 = some (.putfield 17, 7, 1) := by decide +kernel
theorem f_55_19 : mj_fetch 55 19 = some (.iconst 1, 0, 0) := by decide +kernel
theorem f_55_20 : mj_fetch 55 20 = some (.ireturn, 0, 0) := by decide +kernel
theorem f_56_0 : mj_fetch 56 0 = some (.aload_n 0, 0, 0) := by decide +kernel
theorem f_56_1 : mj_fetch 56 1 = some (.aload_n 1, 0, 0) := by decide +kernel
theorem f_56_2 : mj_fetch 56 2 = some (.arraylength, 0, 0) := by decide +kernel
theorem f_56_3 : mj_fetch 56 3 = some (.sipush 500, 0, 0) := by decide +kernel
theorem f_56_6 : mj_fetch 56 6 = some (.invokestatic 21, 0, 2) := by decide +kernel
theorem f_56_9 : mj_fetch 56 9 = some (.putfield 17, 7, 1) := by decide +kernel
theorem f_56_12 : mj_fetch 56 12 = some (.aload_n 1, 0, 0) := by decide +kernel
theorem f_56_13 : mj_fetch 56 13 = some (.iconst 0, 0, 0) := by decide +kernel
theorem f_56_14 : mj_fetch 56 14 = some (.aload_n 0, 0, 0) := by decide +kernel
theorem f_56_15 : mj_fetch 56 15 = some (.getfield 9, 7, 0) := by decide +kernel
theorem f_56_18 : mj_fetch 56 18 = some (.iconst 0, 0, 0) := by decide +kernel
theorem f_56_19 : mj_fetch 56 19 = some (.aload_n 0, 0, 0) := by decide +kernel
theorem f_56_20 : mj_fetch 56 20 = some (.getfield 17, 7, 1) := by decide +kernel
theorem f_56_23 : mj_fetch 56 23 = some (.invokestatic 27, 0, 5) := by decide +kernel
theorem f_56_26 : mj_fetch 56 26 = some (.return_, 0, 0) := by decide +kernel
theorem f_57_0 : mj_fetch 57 0 = some (.iload_n 0, 0, 0) := by decide +kernel
theorem f_57_1 : mj_fetch 57 1 = some (.ifCond .lt 13, 0, 0) := by decide +kernel
theorem f_57_4 : mj_fetch 57 4 = some (.iload_n 0, 0, 0) := by decide +kernel
theorem f_57_5 : mj_fetch 57 5 = some (.bipush 31, 0, 0) := by decide +kernel
theorem f_57_7 : mj_fetch 57 7 = some (.if_icmp .gt 7, 0, 0) := by decide +kernel
theorem f_57_10 : mj_fetch 57 10 = some (.iconst 1, 0, 0) := by decide +kernel
theorem f_57_11 : mj_fetch 57 11 = some (.goto 4, 0, 0) := by decide +kernel
theorem f_57_14 : mj_fetch 57 14 = some (.iconst 0, 0, 0) := by decide +kernel
theorem f_57_15 : mj_fetch 57 15 = some (.ireturn, 0, 0) := by decide +kernel
theorem f_58_0 : mj_fetch 58 0 = some (.aload_n 0, 0, 0) := by decide +kernel
theorem f_58_1 : mj_fetch 58 1 = some (.invokespecial 3, 0, 1) := by decide +kernel
theorem f_58_4 : mj_fetch 58 4 = some (.aload_n 0, 0, 0) := by decide +kernel
theorem f_58_5 : mj_fetch 58 5 = some (.bipush 16, 0, 0) := by decide +kernel
theorem f_58_7 : mj_fetch 58 7 = some (.newarray .int, 12, 0) := by decide +kernel
theorem f_58_9 : mj_fetch 58 9 = some (.putfield 11, 8, 0) := by decide +kernel
theorem f_58_12 : mj_fetch 58 12 = some (.aload_n 0, 0, 0) := by decide +kernel
theorem f_58_13 : mj_fetch 58 13 = some (.bipush 16, 0, 0) := by decide +kernel
theorem f_58_15 : mj_fetch 58 15 = some (.newarray .int, 12, 0) := by decide +kernel
theorem f_58_17 : mj_fetch 58 17 = some (.putfield 15, 8, 1) := by decide +kernel
theorem f_58_20 : mj_fetch 58 20 = some (.return_, 0, 0) := by decide +kernel
theorem f_59_0 : mj_fetch 59 0 = some (.aload_n 0, 0, 0) := by decide +kernel
theorem f_59_1 : mj_fetch 59 1 = some (.iconst 0, 0, 0) := by decide +kernel
theorem f_59_2 : mj_fetch 59 2 = some (.putfield 18, 8, 2) := by decide +kernel
theorem f_59_5 : mj_fetch 59 5 = some (.aload_n 0, 0, 0) := by decide +kernel
theorem f_59_6 : mj_fetch 59 6 = some (.iload_n 1, 0, 0) := by decide +kernel
theorem f_59_7 : mj_fetch 59 7 = some (.iload_n 2, 0, 0) := by decide +kernel
theorem f_59_8 : mj_fetch 59 8 = some (.invokevirtual 22, 60, 0) := by decide +kernel
theorem f_59_11 : mj_fetch 59 11 = some (.return_, 0, 0) := by decide +kernel
theorem f_60_0 : mj_fetch 60 0 = some (.aload_n 0, 0, 0) := by decide +kernel
theorem f_60_1 : mj_fetch 60 1 = some (.getfield 18, 8, 2) := by decide +kernel
theorem f_60_4 : mj_fetch 60 4 = some (.bipush 16, 0, 0) := by decide +kernel
theorem f_60_6 : mj_fetch 60 6 = some (.if_icmp .ge 33, 0, 0) := by decide +kernel
theorem f_60_9 : mj_fetch 60 9 = some (.aload_n 0, 0, 0) := by decide +kernel
theorem f_60_10 : mj_fetch 60 10 = some (.getfield 11, 8, 0) := by decide +kernel
theorem f_60_13 : mj_fetch 60 13 = some (.aload_n 0, 0, 0) := by decide +kernel
theorem f_60_14 : mj_fetch 60 14 = some (.getfield 18, 8, 2) := by decide +kernel
theorem f_60_17 : mj_fetch 60 17 = some (.iload_n 1, 0, 0) := by decide +kernel
theorem f_60_18 : mj_fetch 60 18 = some (.iastore, 0, 0) := by decide +kernel
theorem f_60_19 : mj_fetch 60 19 = some (.aload_n 0, 0, 0) := by decide +kernel
theorem f_60_20 : mj_fetch 60 20 = some (.getfield 15, 8, 1) := by decide +kernel
theorem f_60_23 : mj_fetch 60 23 = some (.aload_n 0, 0, 0) := by decide +kernel
theorem f_60_24 : mj_fetch 60 24 = some (.getfield 18, 8, 2) := by decide +kernel
theorem f_60_27 : mj_fetch 60 27 = some (.iload_n 2, 0, 0) := by decide +kernel
theorem f_60_28 : mj_fetch 60 28 = some (.iastore, 0, 0) := by decide +kernel
theorem f_60_29 : mj_fetch 60 29 = some (.aload_n 0, 0, 0) := by decide +kernel
theorem f_60_30 : mj_fetch 60 30 = some (.dup, 0, 0) := by decide +kernel
theorem f_60_31 : mj_fetch 60 31 = some (.getfield 18, 8, 2) := by decide +kernel
theorem f_60_34 : mj_fetch 60 34 = some (.iconst 1, 0, 0) := by decide +kernel
theorem f_60_35 : mj_fetch 60 35 = some (.iadd, 0, 0) := by decide +kernel
theorem f_60_36 : mj_fetch 60 36 = some (.putfield 18, 8, 2) := by decide +kernel
theorem f_60_39 : mj_fetch 60 39 = some (.return_, 0, 0) := by decide +kernel
theorem f_61_0 : mj_fetch 61 0 = some (.aload_n 0, 0, 0) := by decide +kernel
theorem f_61_1 : mj_fetch 61 1 = some (.getfield 18, 8, 2) := by decide +kernel
theorem f_61_4 : mj_fetch 61 4 = some (.ifCond .ne 5, 0, 0) := by decide +kernel
theorem f_61_7 : mj_fetch 61 7 = some (.iconst 0, 0, 0) := by decide +kernel
theorem f_61_8 : mj_fetch 61 8 = some (.ireturn, 0, 0) := by decide +kernel
theorem f_61_9 : mj_fetch 61 9 = some (.aload_n 0, 0, 0) := by decide +kernel
theorem f_61_10 : mj_fetch 61 10 = some (.dup, 0, 0) := by decide +kernel
theorem f_61_11 : mj_fetch 61 11 = some (.getfield 18, 8, 2) := by decide +kernel
theorem f_61_14 : mj_fetch 61 14 = some (.iconst 1, 0, 0) := by decide +kernel
theorem f_61_15 : mj_fetch 61 15 = some (.isub, 0, 0) := by decide +kernel
theorem f_61_16 : mj_fetch 61 16 = some (.putfield 18, 8, 2) := by decide +kernel
theorem f_61_19 : mj_fetch 61 19 = some (.aload_n 0, 0, 0) := by decide +kernel
theorem f_61_20 : mj_fetch 61 20 = some (.aload_n 0, 0, 0) := by decide +kernel
theorem f_61_21 : mj_fetch 61 21 = some (.getfield 11, 8, 0) := by decide +kernel
theorem f_61_24 : mj_fetch 61 24 = some (.aload_n 0, 0, 0) := by decide +kernel
theorem f_61_25 : mj_fetch 61 25 = some (.getfield 18, 8, 2) := by decide +kernel
theorem f_61_28 : mj_fetch 61 28 = some (.iaload, 0, 0) := by decide +kernel
theorem f_61_29 : mj_fetch 61 29 = some (.putfield 26, 8, 3) := by decide +kernel
theorem f_61_32 : mj_fetch 61 32 = some (.aload_n 0, 0, 0) := by decide +kernel
theorem f_61_33 : mj_fetch 61 33 = some (.aload_n 0, 0, 0) := by decide +kernel
theorem f_61_34 : mj_fetch 61 34 = some (.getfield 15, 8, 1) := by decide +kernel
theorem f_61_37 : mj_fetch 61 37 = some (.aload_n 0, 0, 0) := by decide +kernel
theorem f_61_38 : mj_fetch 61 38 = some (.getfield 18, 8, 2) := by decide +kernel
theorem f_61_41 : mj_fetch 61 41 = some (.iaload, 0, 0) := by decide +kernel
theorem f_61_42 : mj_fetch 61 42 = some (.putfield 29, 8, 4) := by decide +kernel
theorem f_61_45 : mj_fetch 61 45 = some (.iconst 1, 0, 0) := by decide +kernel
theorem f_61_46 : mj_fetch 61 46 = some (.ireturn, 0, 0) := by decide +kernel
theorem f_62_0 : mj_fetch 62 0 = some (.iload_n 1, 0, 0) := by decide +kernel
theorem f_62_1 : mj_fetch 62 1 = some (.invokestatic 32, 64, 0) := by decide +kernel
theorem f_62_4 : mj_fetch 62 4 = some (.istore_n 2, 0, 0) := by decide +kernel
theorem f_62_5 : mj_fetch 62 5 = some (.iload_n 2, 0, 0) := by decide +kernel
theorem f_62_6 : mj_fetch 62 6 = some (.iconst 3, 0, 0) := by decide +kernel
theorem f_62_7 : mj_fetch 62 7 = some (.if_icmp .ge 31, 0, 0) := by decide +kernel
theorem f_62_10 : mj_fetch 62 10 = some (.iload_n 1, 0, 0) := by decide +kernel
theorem f_62_11 : mj_fetch 62 11 = some (.invokestatic 36, 65, 0) := by decide +kernel
theorem f_62_14 : mj_fetch 62 14 = some (.aload_n 0, 0, 0) := by decide +kernel
theorem f_62_15 : mj_fetch 62 15 = some (.getfield 29, 8, 4) := by decide +kernel
theorem f_62_18 : mj_fetch 62 18 = some (.iload_n 2, 0, 0) := by decide +kernel
theorem f_62_19 : mj_fetch 62 19 = some (.invokestatic 39, 108, 0) := by decide +kernel
theorem f_62_22 : mj_fetch 62 22 = some (.aload_n 0, 0, 0) := by decide +kernel
theorem f_62_23 : mj_fetch 62 23 = some (.getfield 26, 8, 3) := by decide +kernel
theorem f_62_26 : mj_fetch 62 26 = some (.iload_n 2, 0, 0) := by decide +kernel
theorem f_62_27 : mj_fetch 62 27 = some (.invokestatic 39, 108, 0) := by decide +kernel
theorem f_62_30 : mj_fetch 62 30 = some (.isub, 0, 0) := by decide +kernel
theorem f_62_31 : mj_fetch 62 31 = some (.if_icmp .gt 7, 0, 0) := by decide +kernel
theorem f_62_34 : mj_fetch 62 34 = some (.iconst 1, 0, 0) := by decide +kernel
theorem f_62_35 : mj_fetch 62 35 = some (.goto 4, 0, 0) := by decide +kernel
theorem f_62_38 : mj_fetch 62 38 = some (.iconst 0, 0, 0) := by decide +kernel
theorem f_62_39 : mj_fetch 62 39 = some (.ireturn, 0, 0) := by decide +kernel
theorem f_63_0 : mj_fetch 63 0 = some (.iload_n 1, 0, 0) := by decide +kernel
theorem f_63_1 : mj_fetch 63 1 = some (.iconst 2, 0, 0) := by decide +kernel
theorem f_63_2 : mj_fetch 63 2 = some (.if_icmp .lt 11, 0, 0) := by decide +kernel
theorem f_63_5 : mj_fetch 63 5 = some (.aload_n 0, 0, 0) := by decide +kernel
theorem f_63_6 : mj_fetch 63 6 = some (.iload_n 1, 0, 0) := by decide +kernel
theorem f_63_7 : mj_fetch 63 7 = some (.invokevirtual 43, 62, 0) := by decide +kernel
theorem f_63_10 : mj_fetch 63 10 = some (.ifCond .ne 4, 0, 0) := by decide +kernel
theorem f_63_13 : mj_fetch 63 13 = some (.return_, 0, 0) := by decide +kernel
theorem f_63_14 : mj_fetch 63 14 = some (.iload_n 1, 0, 0) := by decide +kernel
theorem f_63_15 : mj_fetch 63 15 = some (.invokestatic 32, 64, 0) := by decide +kernel
theorem f_63_18 : mj_fetch 63 18 = some (.istore_n 2, 0, 0) := by decide +kernel
theorem f_63_19 : mj_fetch 63 19 = some (.aload_n 0, 0, 0) := by decide +kernel
theorem f_63_20 : mj_fetch 63 20 = some (.getfield 26, 8, 3) := by decide +kernel
theorem f_63_23 : mj_fetch 63 23 = some (.iload_n 1, 0, 0) := by decide +kernel
theorem f_63_24 : mj_fetch 63 24 = some (.invokestatic 36, 65, 0) := by decide +kernel
theorem f_63_27 : mj_fetch 63 27 = some (.getstatic 47, 2, 0) := by decide +kernel
theorem f_63_30 : mj_fetch 63 30 = some (.iload_n 2, 0, 0) := by decide +kernel
theorem f_63_31 : mj_fetch 63 31 = some (.iaload, 0, 0) := by decide +kernel
theorem f_63_32 : mj_fetch 63 32 = some (.imul, 0, 0) := by decide +kernel
theorem f_63_33 : mj_fetch 63 33 = some (.iadd, 0, 0) := by decide +kernel
theorem f_63_34 : mj_fetch 63 34 = some (.istore_n 3, 0, 0) := by decide +kernel
theorem f_63_35 : mj_fetch 63 35 = some (.aload_n 0, 0, 0) := by decide +kernel
theorem f_63_36 : mj_fetch 63 36 = some (.getfield 29, 8, 4) := by decide +kernel
theorem f_63_39 : mj_fetch 63 39 = some (.iload_n 2, 0, 0) := by decide +kernel
theorem f_63_40 : mj_fetch 63 40 = some (.invokestatic 39, 108, 0) := by decide +kernel
theorem f_63_43 : mj_fetch 63 43 = some (.iload_n 3, 0, 0) := by decide +kernel
theorem f_63_44 : mj_fetch 63 44 = some (.iload_n 2, 0, 0) := by decide +kernel
theorem f_63_45 : mj_fetch 63 45 = some (.invokestatic 39, 108, 0) := by decide +kernel
theorem f_63_48 : mj_fetch 63 48 = some (.isub, 0, 0) := by decide +kernel
theorem f_63_49 : mj_fetch 63 49 = some (.iconst 1, 0, 0) := by decide +kernel
theorem f_63_50 : mj_fetch 63 50 = some (.iadd, 0, 0) := by decide +kernel
theorem f_63_51 : mj_fetch 63 51 = some (.istore 4, 0, 0) := by decide +kernel
theorem f_63_53 : mj_fetch 63 53 = some (.aload_n 0, 0, 0) := by decide +kernel
theorem f_63_54 : mj_fetch 63 54 = some (.iload_n 3, 0, 0) := by decide +kernel
theorem f_63_55 : mj_fetch 63 55 = some (.aload_n 0, 0, 0) := by decide +kernel
theorem f_63_56 : mj_fetch 63 56 = some (.getfield 29, 8, 4) := by decide +kernel
theorem f_63_59 : mj_fetch 63 59 = some (.invokevirtual 22, 60, 0) := by decide +kernel
theorem f_63_62 : mj_fetch 63 62 = some (.aload_n 0, 0, 0) := by decide +kernel
theorem f_63_63 : mj_fetch 63 63 = some (.aload_n 0, 0, 0) := by decide +kernel
theorem f_63_64 : mj_fetch 63 64 = some (.getfield 26, 8, 3) := by decide +kernel
theorem f_63_67 : mj_fetch 63 67 = some (.aload_n 0, 0, 0) := by decide +kernel
theorem f_63_68 : mj_fetch 63 68 = some (.getfield 29, 8, 4) := by decide +kernel
theorem f_63_71 : mj_fetch 63 71 = some (.iload 4, 0, 0) := by decide +kernel
theorem f_63_73 : mj_fetch 63 73 = some (.getstatic 47, 2, 0) := by decide +kernel
theorem f_63_76 : mj_fetch 63 76 = some (.iload_n 2, 0, 0) := by decide +kernel
theorem f_63_77 : mj_fetch 63 77 = some (.iaload, 0, 0) := by decide +kernel
theorem f_63_78 : mj_fetch 63 78 = some (.imul, 0, 0) := by decide +kernel
theorem f_63_79 : mj_fetch 63 79 = some (.isub, 0, 0) := by decide +kernel
theorem f_63_80 : mj_fetch 63 80 = some (.invokevirtual 22, 60, 0) := by decide +kernel
theorem f_63_83 : mj_fetch 63 83 = some (.return_, 0, 0) := by decide +kernel
theorem f_64_0 : mj_fetch 64 0 = some (.iload_n 0, 0, 0) := by decide +kernel
theorem f_64_1 : mj_fetch 64 1 = some (.iconst 2, 0, 0) := by decide +kernel
theorem f_64_2 : mj_fetch 64 2 = some (.isub, 0, 0) := by decide +kernel
theorem f_64_3 : mj_fetch 64 3 = some (.bipush 8, 0, 0) := by decide +kernel
theorem f_64_5 : mj_fetch 64 5 = some (.idiv, 0, 0) := by decide +kernel
theorem f_64_6 : mj_fetch 64 6 = some (.ireturn, 0, 0) := by decide +kernel
theorem f_65_0 : mj_fetch 65 0 = some (.iload_n 0, 0, 0) := by decide +kernel
theorem f_65_1 : mj_fetch 65 1 = some (.iconst 2, 0, 0) := by decide +kernel
theorem f_65_2 : mj_fetch 65 2 = some (.isub, 0, 0) := by decide +kernel
theorem f_65_3 : mj_fetch 65 3 = some (.bipush 8, 0, 0) := by decide +kernel
theorem f_65_5 : mj_fetch 65 5 = some (.irem, 0, 0) := by decide +kernel
theorem f_65_6 : mj_fetch 65 6 = some (.iconst 1, 0, 0) := by decide +kernel
theorem f_65_7 : mj_fetch 65 7 = some (.iadd, 0, 0) := by decide +kernel
theorem f_65_8 : mj_fetch 65 8 = some (.ireturn, 0, 0) := by decide +kernel
theorem f_66_0 : mj_fetch 66 0 = some (.aload_n 0, 0, 0) := by decide +kernel
theorem f_66_1 : mj_fetch 66 1 = some (.invokespecial 1, 0, 1) := by decide +kernel
theorem f_66_4 : mj_fetch 66 4 = some (.aload_n 0, 0, 0) := by decide +kernel
theorem f_66_5 : mj_fetch 66 5 = some (.aload_n 1, 0, 0) := by decide +kernel
theorem f_66_6 : mj_fetch 66 6 = some (.putfield 7, 9, 0) := by decide +kernel
theorem f_66_9 : mj_fetch 66 9 = some (.aload_n 0, 0, 0) := by decide +kernel
theorem f_66_10 : mj_fetch 66 10 = some (.iload_n 2, 0, 0) := by decide +kernel
theorem f_66_11 : mj_fetch 66 11 = some (.putfield 13, 9, 1) := by decide +kernel
theorem f_66_14 : mj_fetch 66 14 = some (.aload_n 0, 0, 0) := by decide +kernel
theorem f_66_15 : mj_fetch 66 15 = some (.iload_n 3, 0, 0) := by decide +kernel
theorem f_66_16 : mj_fetch 66 16 = some (.putfield 17, 9, 2) := by decide +kernel
theorem f_66_19 : mj_fetch 66 19 = some (.return_, 0, 0) := by decide +kernel
theorem f_67_0 : mj_fetch 67 0 = some (.aload_n 0, 0, 0) := by decide +kernel
theorem f_67_1 : mj_fetch 67 1 = some (.invokespecial 1, 0, 1) := by decide +kernel
theorem f_67_4 : mj_fetch 67 4 = some (.aload_n 0, 0, 0) := by decide +kernel
theorem f_67_5 : mj_fetch 67 5 = some (.bipush 6, 0, 0) := by decide +kernel
theorem f_67_7 : mj_fetch 67 7 = some (.anewarray 9, 17, 0) := by decide +kernel
theorem f_67_10 : mj_fetch 67 10 = some (.putfield 11, 10, 0) := by decide +kernel
theorem f_67_13 : mj_fetch 67 13 = some (.aload_n 0, 0, 0) := by decide +kernel
theorem f_67_14 : mj_fetch 67 14 = some (.bipush 20, 0, 0) := by decide +kernel
theorem f_67_16 : mj_fetch 67 16 = some (.anewarray 15, 15, 0) := by decide +kernel
theorem f_67_19 : mj_fetch 67 19 = some (.putfield 17, 10, 1) := by decide +kernel
theorem f_67_22 : mj_fetch 67 22 = some (.aload_n 0, 0, 0) := by decide +kernel
theorem f_67_23 : mj_fetch 67 23 = some (.bipush 10, 0, 0) := by decide +kernel
theorem f_67_25 : mj_fetch 67 25 = some (.anewarray 21, 18, 0) := by decide +kernel
theorem f_67_28 : mj_fetch 67 28 = some (.putfield 23, 10, 2) := by decide +kernel
theorem f_67_31 : mj_fetch 67 31 = some (.aload_n 0, 0, 0) := by decide +kernel
theorem f_67_32 : mj_fetch 67 32 = some (.new 27, 0, 0) := by decide +kernel
theorem f_67_35 : mj_fetch 67 35 = some (.dup, 0, 0) := by decide +kernel
theorem f_67_36 : mj_fetch 67 36 = some (.invokespecial 29, 0, 0) := by decide +kernel
theorem f_67_39 : mj_fetch 67 39 = some (.putfield 30, 10, 3) := by decide +kernel
theorem f_67_42 : mj_fetch 67 42 = some (.aload_n 0, 0, 0) := by decide +kernel
theorem f_67_43 : mj_fetch 67 43 = some (.new 34, 8, 0) := by decide +kernel
theorem f_67_46 : mj_fetch 67 46 = some (.dup, 0, 0) := by decide +kernel
theorem f_67_47 : mj_fetch 67 47 = some (.invokespecial 36, 58, 0) := by decide +kernel
theorem f_67_50 : mj_fetch 67 50 = some (.putfield 37, 10, 4) := by decide +kernel
theorem f_67_53 : mj_fetch 67 53 = some (.aload_n 0, 0, 0) := by decide +kernel
theorem f_67_54 : mj_fetch 67 54 = some (.new 41, 7, 0) := by decide +kernel
theorem f_67_57 : mj_fetch 67 57 = some (.dup, 0, 0) := by decide +kernel
theorem f_67_58 : mj_fetch 67 58 = some (.invokespecial 43, 52, 0) := by decide +kernel
theorem f_67_61 : mj_fetch 67 61 = some (.putfield 44, 10, 5) := by decide +kernel
theorem f_67_64 : mj_fetch 67 64 = some (.aload_n 0, 0, 0) := by decide +kernel
theorem f_67_65 : mj_fetch 67 65 = some (.new 48, 1, 0) := by decide +kernel
theorem f_67_68 : mj_fetch 67 68 = some (.dup, 0, 0) := by decide +kernel
theorem f_67_69 : mj_fetch 67 69 = some (.invokespecial 50, 11, 0) := by decide +kernel
theorem f_67_72 : mj_fetch 67 72 = some (.putfield 51, 10, 6) := by decide +kernel
theorem f_67_75 : mj_fetch 67 75 = some (.aload_n 0, 0, 0) := by decide +kernel
theorem f_67_76 : mj_fetch 67 76 = some (.new 55, 2, 0) := by decide +kernel
theorem f_67_79 : mj_fetch 67 79 = some (.dup, 0, 0) := by decide +kernel
theorem f_67_80 : mj_fetch 67 80 = some (.invokespecial 57, 19, 0) := by decide +kernel
theorem f_67_83 : mj_fetch 67 83 = some (.putfield 58, 10, 7) := by decide +kernel
theorem f_67_86 : mj_fetch 67 86 = some (.return_, 0, 0) := by decide +kernel
theorem f_68_0 : mj_fetch 68 0 = some (.iload_n 1, 0, 0) := by decide +kernel
theorem f_68_1 : mj_fetch 68 1 = some (.ifCond .lt 22, 0, 0) := by decide +kernel
theorem f_68_4 : mj_fetch 68 4 = some (.iload_n 1, 0, 0) := by decide +kernel
theorem f_68_5 : mj_fetch 68 5 = some (.sipush 500, 0, 0) := by decide +kernel
theorem f_68_8 : mj_fetch 68 8 = some (.if_icmp .gt 15, 0, 0) := by decide +kernel
theorem f_68_11 : mj_fetch 68 11 = some (.aload_n 0, 0, 0) := by decide +kernel
theorem f_68_12 : mj_fetch 68 12 = some (.getfield 62, 10, 9) := by decide +kernel
theorem f_68_15 : mj_fetch 68 15 = some (.iload_n 1, 0, 0) := by decide +kernel
theorem f_68_16 : mj_fetch 68 16 = some (.iadd, 0, 0) := by decide +kernel
theorem f_68_17 : mj_fetch 68 17 = some (.sipush 1000, 0, 0) := by decide +kernel
theorem f_68_20 : mj_fetch 68 20 = some (.if_icmp .le 5, 0, 0) := by decide +kernel
theorem f_68_23 : mj_fetch 68 23 = some (.iconst (-1), 0, 0) := by decide +kernel
theorem f_68_24 : mj_fetch 68 24 = some (.ireturn, 0, 0) := by decide +kernel
theorem f_68_25 : mj_fetch 68 25 = some (.aload_n 0, 0, 0) := by decide +kernel
theorem f_68_26 : mj_fetch 68 26 = some (.dup, 0, 0) := by decide +kernel
theorem f_68_27 : mj_fetch 68 27 = some (.getfield 62, 10, 9) := by decide +kernel
theorem f_68_30 : mj_fetch 68 30 = some (.iload_n 1, 0, 0) := by decide +kernel
theorem f_68_31 : mj_fetch 68 31 = some (.iadd, 0, 0) := by decide +kernel
theorem f_68_32 : mj_fetch 68 32 = some (.putfield 62, 10, 9) := by decide +kernel
theorem f_68_35 : mj_fetch 68 35 = some (.aload_n 0, 0, 0) := by decide +kernel
theorem f_68_36 : mj_fetch 68 36 = some (.getfield 62, 10, 9) := by decide +kernel
theorem f_68_39 : mj_fetch 68 39 = some (.ireturn, 0, 0) := by decide +kernel
theorem f_69_0 : mj_fetch 69 0 = some (.aload_n 0, 0, 0) := by decide +kernel
theorem f_69_1 : mj_fetch 69 1 = some (.getfield 66, 10, 10) := by decide +kernel
theorem f_69_4 : mj_fetch 69 4 = some (.bipush 6, 0, 0) := by decide +kernel
theorem f_69_6 : mj_fetch 69 6 = some (.if_icmp .ne 5, 0, 0) := by decide +kernel
theorem f_69_9 : mj_fetch 69 9 = some (.iconst (-1), 0, 0) := by decide +kernel
theorem f_69_10 : mj_fetch 69 10 = some (.ireturn, 0, 0) := by decide +kernel
theorem f_69_11 : mj_fetch 69 11 = some (.bipush 8, 0, 0) := by decide +kernel
theorem f_69_13 : mj_fetch 69 13 = some (.newarray .int, 12, 0) := by decide +kernel
theorem f_69_15 : mj_fetch 69 15 = some (.dup, 0, 0) := by decide +kernel
theorem f_69_16 : mj_fetch 69 16 = some (.iconst 0, 0, 0) := by decide +kernel
theorem f_69_17 : mj_fetch 69 17 = some (.iload_n 1, 0, 0) := by decide +kernel
theorem f_69_18 : mj_fetch 69 18 = some (.iastore, 0, 0) := by decide +kernel
theorem f_69_19 : mj_fetch 69 19 = some (.dup, 0, 0) := by decide +kernel
theorem f_69_20 : mj_fetch 69 20 = some (.iconst 1, 0, 0) := by decide +kernel
theorem f_69_21 : mj_fetch 69 21 = some (.iload_n 2, 0, 0) := by decide +kernel
theorem f_69_22 : mj_fetch 69 22 = some (.iastore, 0, 0) := by decide +kernel
theorem f_69_23 : mj_fetch 69 23 = some (.dup, 0, 0) := by decide +kernel
theorem f_69_24 : mj_fetch 69 24 = some (.iconst 2, 0, 0) := by decide +kernel
theorem f_69_25 : mj_fetch 69 25 = some (.iload_n 3, 0, 0) := by decide +kernel
theorem f_69_26 : mj_fetch 69 26 = some (.iastore, 0, 0) := by decide +kernel
theorem f_69_27 : mj_fetch 69 27 = some (.dup, 0, 0) := by decide +kernel
theorem f_69_28 : mj_fetch 69 28 = some (.iconst 3, 0, 0) := by decide +kernel
theorem f_69_29 : mj_fetch 69 29 = some (.iload 4, 0, 0) := by decide +kernel
theorem f_69_31 : mj_fetch 69 31 = some (.iastore, 0, 0) := by decide +kernel
theorem f_69_32 : mj_fetch 69 32 = some (.dup, 0, 0) := by decide +kernel
theorem f_69_33 : mj_fetch 69 33 = some (.iconst 4, 0, 0) := by decide +kernel
theorem f_69_34 : mj_fetch 69 34 = some (.iload 5, 0, 0) := by decide +kernel
theorem f_69_36 : mj_fetch 69 36 = some (.iastore, 0, 0) := by decide +kernel
theorem f_69_37 : mj_fetch 69 37 = some (.dup, 0, 0) := by decide +kernel
theorem f_69_38 : mj_fetch 69 38 = some (.iconst 5, 0, 0) := by decide +kernel
theorem f_69_39 : mj_fetch 69 39 = some (.iload 6, 0, 0) := by decide +kernel
theorem f_69_41 : mj_fetch 69 41 = some (.iastore, 0, 0) := by decide +kernel
theorem f_69_42 : mj_fetch 69 42 = some (.dup, 0, 0) := by decide +kernel
theorem f_69_43 : mj_fetch 69 43 = some (.bipush 6, 0, 0) := by decide +kernel
theorem f_69_45 : mj_fetch 69 45 = some (.iload 7, 0, 0) := by decide +kernel
theorem f_69_47 : mj_fetch 69 47 = some (.iastore, 0, 0) := by decide +kernel
theorem f_69_48 : mj_fetch 69 48 = some (.dup, 0, 0) := by decide +kernel
theorem f_69_49 : mj_fetch 69 49 = some (.bipush 7, 0, 0) := by decide +kernel
theorem f_69_51 : mj_fetch 69 51 = some (.iload 8, 0, 0) := by decide +kernel
theorem f_69_53 : mj_fetch 69 53 = some (.iastore, 0, 0) := by decide +kernel
theorem f_69_54 : mj_fetch 69 54 = some (.astore 9, 0, 0) := by decide +kernel
theorem f_69_56 : mj_fetch 69 56 = some (.iconst 0, 0, 0) := by decide +kernel
theorem f_69_57 : mj_fetch 69 57 = some (.istore 10, 0, 0) := by decide +kernel
theorem f_69_59 : mj_fetch 69 59 = some (.iload 10, 0, 0) := by decide +kernel
theorem f_69_61 : mj_fetch 69 61 = some (.bipush 8, 0, 0) := by decide +kernel
theorem f_69_63 : mj_fetch 69 63 = some (.if_icmp .ge 39, 0, 0) := by decide +kernel
theorem f_69_66 : mj_fetch 69 66 = some (.aload 9, 0, 0) := by decide +kernel
theorem f_69_68 : mj_fetch 69 68 = some (.iload 10, 0, 0) := by decide +kernel
theorem f_69_70 : mj_fetch 69 70 = some (.iaload, 0, 0) := by decide +kernel
theorem f_69_71 : mj_fetch 69 71 = some (.getstatic 69, 0, 0) := by decide +kernel
theorem f_69_74 : mj_fetch 69 74 = some (.iload 10, 0, 0) := by decide +kernel
theorem f_69_76 : mj_fetch 69 76 = some (.iaload, 0, 0) := by decide +kernel
theorem f_69_77 : mj_fetch 69 77 = some (.if_icmp .lt 17, 0, 0) := by decide +kernel
theorem f_69_80 : mj_fetch 69 80 = some (.aload 9, 0, 0) := by decide +kernel
theorem f_69_82 : mj_fetch 69 82 = some (.iload 10, 0, 0) := by decide +kernel
theorem f_69_84 : mj_fetch 69 84 = some (.iaload, 0, 0) := by decide +kernel
theorem f_69_85 : mj_fetch 69 85 = some (.getstatic 73, 1, 0) := by decide +kernel
theorem f_69_88 : mj_fetch 69 88 = some (.iload 10, 0, 0) := by decide +kernel
theorem f_69_90 : mj_fetch 69 90 = some (.iaload, 0, 0) := by decide +kernel
theorem f_69_91 : mj_fetch 69 91 = some (.if_icmp .le 5, 0, 0) := by decide +kernel
theorem f_69_94 : mj_fetch 69 94 = some (.iconst (-1), 0, 0) := by decide +kernel
theorem f_69_95 : mj_fetch 69 95 = some (.ireturn, 0, 0) := by decide +kernel
theorem f_69_96 : mj_fetch 69 96 = some (.iinc 10 1, 0, 0) := by decide +kernel
theorem f_69_99 : mj_fetch 69 99 = some (.goto (-40), 0, 0) := by decide +kernel
theorem f_69_102 : mj_fetch 69 102 = some (.aload_n 0, 0, 0) := by decide +kernel
theorem f_69_103 : mj_fetch 69 103 = some (.getfield 11, 10, 0) := by decide +kernel
theorem f_69_106 : mj_fetch 69 106 = some (.aload_n 0, 0, 0) := by decide +kernel
theorem f_69_107 : mj_fetch 69 107 = some (.getfield 66, 10, 10) := by decide +kernel
theorem f_69_110 : mj_fetch 69 110 = some (.new 9, 6, 0) := by decide +kernel
theorem f_69_113 : mj_fetch 69 113 = some (.dup, 0, 0) := by decide +kernel
theorem f_69_114 : mj_fetch 69 114 = some (.aload 9, 0, 0) := by decide +kernel
theorem f_69_116 : mj_fetch 69 116 = some (.invokespecial 76, 49, 0) := by decide +kernel
theorem f_69_119 : mj_fetch 69 119 = some (.aastore, 0, 0) := by decide +kernel
theorem f_69_120 : mj_fetch 69 120 = some (.aload_n 0, 0, 0) := by decide +kernel
theorem f_69_121 : mj_fetch 69 121 = some (.dup, 0, 0) := by decide +kernel
theorem f_69_122 : mj_fetch 69 122 = some (.getfield 66, 10, 10) := by decide +kernel
theorem f_69_125 : mj_fetch 69 125 = some (.iconst 1, 0, 0) := by decide +kernel
theorem f_69_126 : mj_fetch 69 126 = some (.iadd, 0, 0) := by decide +kernel
theorem f_69_127 : mj_fetch 69 127 = some (.putfield 66, 10, 10) := by decide +kernel
theorem f_69_130 : mj_fetch 69 130 = some (.aload_n 0, 0, 0) := by decide +kernel
theorem f_69_131 : mj_fetch 69 131 = some (.getfield 66, 10, 10) := by decide +kernel
theorem f_69_134 : mj_fetch 69 134 = some (.iconst 1, 0, 0) := by decide +kernel
theorem f_69_135 : mj_fetch 69 135 = some (.isub, 0, 0) := by decide +kernel
theorem f_69_136 : mj_fetch 69 136 = some (.ireturn, 0, 0) := by decide +kernel
theorem f_70_0 : mj_fetch 70 0 = some (.aload_n 0, 0, 0) := by decide +kernel
theorem f_70_1 : mj_fetch 70 1 = some (.iload_n 1, 0, 0) := by decide +kernel
theorem f_70_2 : mj_fetch 70 2 = some (.invokevirtual 79, 99, 0) := by decide +kernel
theorem f_70_5 : mj_fetch 70 5 = some (.astore_n 3, 0, 0) := by decide +kernel
theorem f_70_6 : mj_fetch 70 6 = some (.aload_n 0, 0, 0) := by decide +kernel
theorem f_70_7 : mj_fetch 70 7 = some (.iload_n 2, 0, 0) := by decide +kernel
theorem f_70_8 : mj_fetch 70 8 = some (.invokevirtual 79, 99, 0) := by decide +kernel
theorem f_70_11 : mj_fetch 70 11 = some (.astore 4, 0, 0) := by decide +kernel
theorem f_70_13 : mj_fetch 70 13 = some (.aload_n 3, 0, 0) := by decide +kernel
theorem f_70_14 : mj_fetch 70 14 = some (.ifnull 16, 0, 0) := by decide +kernel
theorem f_70_17 : mj_fetch 70 17 = some (.aload 4, 0, 0) := by decide +kernel
theorem f_70_19 : mj_fetch 70 19 = some (.ifnull 11, 0, 0) := by decide +kernel
theorem f_70_22 : mj_fetch 70 22 = some (.aload_n 3, 0, 0) := by decide +kernel
theorem f_70_23 : mj_fetch 70 23 = some (.iload_n 2, 0, 0) := by decide +kernel
theorem f_70_24 : mj_fetch 70 24 = some (.invokevirtual 83, 50, 0) := by decide +kernel
theorem f_70_27 : mj_fetch 70 27 = some (.ifCond .eq 5, 0, 0) := by decide +kernel
theorem f_70_30 : mj_fetch 70 30 = some (.iconst 0, 0, 0) := by decide +kernel
theorem f_70_31 : mj_fetch 70 31 = some (.ireturn, 0, 0) := by decide +kernel
theorem f_70_32 : mj_fetch 70 32 = some (.aload_n 3, 0, 0) := by decide +kernel
theorem f_70_33 : mj_fetch 70 33 = some (.iload_n 2, 0, 0) := by decide +kernel
theorem f_70_34 : mj_fetch 70 34 = some (.invokevirtual 87, 51, 0) := by decide +kernel
theorem f_70_37 : mj_fetch 70 37 = some (.aload 4, 0, 0) := by decide +kernel
theorem f_70_39 : mj_fetch 70 39 = some (.iload_n 1, 0, 0) := by decide +kernel
theorem f_70_40 : mj_fetch 70 40 = some (.invokevirtual 87, 51, 0) := by decide +kernel
theorem f_70_43 : mj_fetch 70 43 = some (.iconst 1, 0, 0) := by decide +kernel
theorem f_70_44 : mj_fetch 70 44 = some (.ireturn, 0, 0) := by decide +kernel
theorem f_71_0 : mj_fetch 71 0 = some (.aload_n 0, 0, 0) := by decide +kernel
theorem f_71_1 : mj_fetch 71 1 = some (.iload_n 1, 0, 0) := by decide +kernel
theorem f_71_2 : mj_fetch 71 2 = some (.invokevirtual 79, 99, 0) := by decide +kernel
theorem f_71_5 : mj_fetch 71 5 = some (.astore 4, 0, 0) := by decide +kernel
theorem f_71_7 : mj_fetch 71 7 = some (.aload_n 0, 0, 0) := by decide +kernel
theorem f_71_8 : mj_fetch 71 8 = some (.iload_n 2, 0, 0) := by decide +kernel
theorem f_71_9 : mj_fetch 71 9 = some (.invokevirtual 79, 99, 0) := by decide +kernel
theorem f_71_12 : mj_fetch 71 12 = some (.astore 5, 0, 0) := by decide +kernel
theorem f_71_14 : mj_fetch 71 14 = some (.aload 4, 0, 0) := by decide +kernel
theorem f_71_16 : mj_fetch 71 16 = some (.ifnull 17, 0, 0) := by decide +kernel
theorem f_71_19 : mj_fetch 71 19 = some (.aload 5, 0, 0) := by decide +kernel
theorem f_71_21 : mj_fetch 71 21 = some (.ifnull 12, 0, 0) := by decide +kernel
theorem f_71_24 : mj_fetch 71 24 = some (.aload 4, 0, 0) := by decide +kernel
theorem f_71_26 : mj_fetch 71 26 = some (.iload_n 2, 0, 0) := by decide +kernel
theorem f_71_27 : mj_fetch 71 27 = some (.invokevirtual 83, 50, 0) := by decide +kernel
theorem f_71_30 : mj_fetch 71 30 = some (.ifCond .eq 5, 0, 0) := by decide +kernel
theorem f_71_33 : mj_fetch 71 33 = some (.iconst (-1), 0, 0) := by decide +kernel
theorem f_71_34 : mj_fetch 71 34 = some (.ireturn, 0, 0) := by decide +kernel
theorem f_71_35 : mj_fetch 71 35 = some (.iload_n 3, 0, 0) := by decide +kernel
theorem f_71_36 : mj_fetch 71 36 = some (.iconst 2, 0, 0) := by decide +kernel
theorem f_71_37 : mj_fetch 71 37 = some (.if_icmp .lt 18, 0, 0) := by decide +kernel
theorem f_71_40 : mj_fetch 71 40 = some (.iload_n 3, 0, 0) := by decide +kernel
theorem f_71_41 : mj_fetch 71 41 = some (.bipush 6, 0, 0) := by decide +kernel
theorem f_71_43 : mj_fetch 71 43 = some (.if_icmp .gt 12, 0, 0) := by decide +kernel
theorem f_71_46 : mj_fetch 71 46 = some (.aload_n 0, 0, 0) := by decide +kernel
theorem f_71_47 : mj_fetch 71 47 = some (.getfield 91, 10, 11) := by decide +kernel
theorem f_71_50 : mj_fetch 71 50 = some (.bipush 20, 0, 0) := by decide +kernel
theorem f_71_52 : mj_fetch 71 52 = some (.if_icmp .ne 5, 0, 0) := by decide +kernel
theorem f_71_55 : mj_fetch 71 55 = some (.iconst (-1), 0, 0) := by decide +kernel
theorem f_71_56 : mj_fetch 71 56 = some (.ireturn, 0, 0) := by decide +kernel
theorem f_71_57 : mj_fetch 71 57 = some (.new 15, 3, 0) := by decide +kernel
theorem f_71_60 : mj_fetch 71 60 = some (.dup, 0, 0) := by decide +kernel
theorem f_71_61 : mj_fetch 71 61 = some (.iload_n 1, 0, 0) := by decide +kernel
theorem f_71_62 : mj_fetch 71 62 = some (.iload_n 2, 0, 0) := by decide +kernel
theorem f_71_63 : mj_fetch 71 63 = some (.invokespecial 94, 29, 0) := by decide +kernel
theorem f_71_66 : mj_fetch 71 66 = some (.astore 6, 0, 0) := by decide +kernel
theorem f_71_68 : mj_fetch 71 68 = some (.aload 6, 0, 0) := by decide +kernel
theorem f_71_70 : mj_fetch 71 70 = some (.aload 4, 0, 0) := by decide +kernel
theorem f_71_72 : mj_fetch 71 72 = some (.aload 5, 0, 0) := by decide +kernel
theorem f_71_74 : mj_fetch 71 74 = some (.iload_n 3, 0, 0) := by decide +kernel
theorem f_71_75 : mj_fetch 71 75 = some (.invokevirtual 97, 30, 0) := by decide +kernel
theorem f_71_78 : mj_fetch 71 78 = some (.aload_n 0, 0, 0) := by decide +kernel
theorem f_71_79 : mj_fetch 71 79 = some (.getfield 17, 10, 1) := by decide +kernel
theorem f_71_82 : mj_fetch 71 82 = some (.aload_n 0, 0, 0) := by decide +kernel
theorem f_71_83 : mj_fetch 71 83 = some (.getfield 91, 10, 11) := by decide +kernel
theorem f_71_86 : mj_fetch 71 86 = some (.aload 6, 0, 0) := by decide +kernel
theorem f_71_88 : mj_fetch 71 88 = some (.aastore, 0, 0) := by decide +kernel
theorem f_71_89 : mj_fetch 71 89 = some (.aload_n 0, 0, 0) := by decide +kernel
theorem f_71_90 : mj_fetch 71 90 = some (.dup, 0, 0) := by decide +kernel
theorem f_71_91 : mj_fetch 71 91 = some (.getfield 91, 10, 11) := by decide +kernel
theorem f_71_94 : mj_fetch 71 94 = some (.iconst 1, 0, 0) := by decide +kernel
theorem f_71_95 : mj_fetch 71 95 = some (.iadd, 0, 0) := by decide +kernel
theorem f_71_96 : mj_fetch 71 96 = some (.putfield 91, 10, 11) := by decide +kernel
theorem f_71_99 : mj_fetch 71 99 = some (.aload_n 0, 0, 0) := by decide +kernel
theorem f_71_100 : mj_fetch 71 100 = some (.getfield 91, 10, 11) := by decide +kernel
theorem f_71_103 : mj_fetch 71 103 = some (.iconst 1, 0, 0) := by decide +kernel
theorem f_71_104 : mj_fetch 71 104 = some (.isub, 0, 0) := by decide +kernel
theorem f_71_105 : mj_fetch 71 105 = some (.ireturn, 0, 0) := by decide +kernel
theorem f_73_0 : mj_fetch 73 0 = some (.iload_n 1, 0, 0) := by decide +kernel
theorem f_73_1 : mj_fetch 73 1 = some (.invokestatic 111, 106, 0) := by decide +kernel
theorem f_73_4 : mj_fetch 73 4 = some (.ifCond .eq 17, 0, 0) := by decide +kernel
theorem f_73_7 : mj_fetch 73 7 = some (.iload_n 2, 0, 0) := by decide +kernel
theorem f_73_8 : mj_fetch 73 8 = some (.invokestatic 111, 106, 0) := by decide +kernel
theorem f_73_11 : mj_fetch 73 11 = some (.ifCond .eq 10, 0, 0) := by decide +kernel
theorem f_73_14 : mj_fetch 73 14 = some (.iload_n 3, 0, 0) := by decide +kernel
theorem f_73_15 : mj_fetch 73 15 = some (.invokestatic 111, 106, 0) := by decide +kernel
theorem f_73_18 : mj_fetch 73 18 = some (.ifCond .ne 5, 0, 0) := by decide +kernel
theorem f_73_21 : mj_fetch 73 21 = some (.iconst (-1), 0, 0) := by decide +kernel
theorem f_73_22 : mj_fetch 73 22 = some (.ireturn, 0, 0) := by decide +kernel
theorem f_73_23 : mj_fetch 73 23 = some (.getstatic 114, 2, 0) := by decide +kernel
theorem f_73_26 : mj_fetch 73 26 = some (.iconst 0, 0, 0) := by decide +kernel
theorem f_73_27 : mj_fetch 73 27 = some (.iaload, 0, 0) := by decide +kernel
theorem f_73_28 : mj_fetch 73 28 = some (.iload_n 1, 0, 0) := by decide +kernel
theorem f_73_29 : mj_fetch 73 29 = some (.iconst 1, 0, 0) := by decide +kernel
theorem f_73_30 : mj_fetch 73 30 = some (.isub, 0, 0) := by decide +kernel
theorem f_73_31 : mj_fetch 73 31 = some (.imul, 0, 0) := by decide +kernel
theorem f_73_32 : mj_fetch 73 32 = some (.getstatic 114, 2, 0) := by decide +kernel
theorem f_73_35 : mj_fetch 73 35 = some (.iconst 1, 0, 0) := by decide +kernel
theorem f_73_36 : mj_fetch 73 36 = some (.iaload, 0, 0) := by decide +kernel
theorem f_73_37 : mj_fetch 73 37 = some (.iload_n 2, 0, 0) := by decide +kernel
theorem f_73_38 : mj_fetch 73 38 = some (.iconst 1, 0, 0) := by decide +kernel
theorem f_73_39 : mj_fetch 73 39 = some (.isub, 0, 0) := by decide +kernel
theorem f_73_40 : mj_fetch 73 40 = some (.imul, 0, 0) := by decide +kernel
theorem f_73_41 : mj_fetch 73 41 = some (.iadd, 0, 0) := by decide +kernel
theorem f_73_42 : mj_fetch 73 42 = some (.getstatic 114, 2, 0) := by decide +kernel
theorem f_73_45 : mj_fetch 73 45 = some (.iconst 2, 0, 0) := by decide +kernel
theorem f_73_46 : mj_fetch 73 46 = some (.iaload, 0, 0) := by decide +kernel
theorem f_73_47 : mj_fetch 73 47 = some (.iload_n 3, 0, 0) := by decide +kernel
theorem f_73_48 : mj_fetch 73 48 = some (.iconst 1, 0, 0) := by decide +kernel
theorem f_73_49 : mj_fetch 73 49 = some (.isub, 0, 0) := by decide +kernel
theorem f_73_50 : mj_fetch 73 50 = some (.imul, 0, 0) := by decide +kernel
theorem f_73_51 : mj_fetch 73 51 = some (.iadd, 0, 0) := by decide +kernel
theorem f_73_52 : mj_fetch 73 52 = some (.ireturn, 0, 0) := by decide +kernel
theorem f_74_0 : mj_fetch 74 0 = some (.aload_n 0, 0, 0) := by decide +kernel
theorem f_74_1 : mj_fetch 74 1 = some (.iload_n 1, 0, 0) := by decide +kernel
theorem f_74_2 : mj_fetch 74 2 = some (.iload_n 2, 0, 0) := by decide +kernel
theorem f_74_3 : mj_fetch 74 3 = some (.invokevirtual 117, 103, 0) := by decide +kernel
theorem f_74_6 : mj_fetch 74 6 = some (.ifCond .eq 13, 0, 0) := by decide +kernel
theorem f_74_9 : mj_fetch 74 9 = some (.aload_n 0, 0, 0) := by decide +kernel
theorem f_74_10 : mj_fetch 74 10 = some (.getfield 30, 10, 3) := by decide +kernel
theorem f_74_13 : mj_fetch 74 13 = some (.getfield 121, 0, 7) := by decide +kernel
theorem f_74_16 : mj_fetch 74 16 = some (.goto 4, 0, 0) := by decide +kernel
theorem f_74_19 : mj_fetch 74 19 = some (.iconst (-1), 0, 0) := by decide +kernel
theorem f_74_20 : mj_fetch 74 20 = some (.ireturn, 0, 0) := by decide +kernel
theorem f_75_0 : mj_fetch 75 0 = some (.aload_n 0, 0, 0) := by decide +kernel
theorem f_75_1 : mj_fetch 75 1 = some (.iload_n 1, 0, 0) := by decide +kernel
theorem f_75_2 : mj_fetch 75 2 = some (.invokevirtual 101, 100, 0) := by decide +kernel
theorem f_75_5 : mj_fetch 75 5 = some (.astore 5, 0, 0) := by decide +kernel
theorem f_75_7 : mj_fetch 75 7 = some (.aload 5, 0, 0) := by decide +kernel
theorem f_75_9 : mj_fetch 75 9 = some (.ifnull 28, 0, 0) := by decide +kernel
theorem f_75_12 : mj_fetch 75 12 = some (.iload_n 3, 0, 0) := by decide +kernel
theorem f_75_13 : mj_fetch 75 13 = some (.ifCond .lt 24, 0, 0) := by decide +kernel
theorem f_75_16 : mj_fetch 75 16 = some (.iload_n 3, 0, 0) := by decide +kernel
theorem f_75_17 : mj_fetch 75 17 = some (.aload 5, 0, 0) := by decide +kernel
theorem f_75_19 : mj_fetch 75 19 = some (.getfield 108, 3, 2) := by decide +kernel
theorem f_75_22 : mj_fetch 75 22 = some (.bipush 8, 0, 0) := by decide +kernel
theorem f_75_24 : mj_fetch 75 24 = some (.iaload, 0, 0) := by decide +kernel
theorem f_75_25 : mj_fetch 75 25 = some (.if_icmp .ge 12, 0, 0) := by decide +kernel
theorem f_75_28 : mj_fetch 75 28 = some (.aload_n 0, 0, 0) := by decide +kernel
theorem f_75_29 : mj_fetch 75 29 = some (.iload_n 1, 0, 0) := by decide +kernel
theorem f_75_30 : mj_fetch 75 30 = some (.iload_n 2, 0, 0) := by decide +kernel
theorem f_75_31 : mj_fetch 75 31 = some (.invokevirtual 117, 103, 0) := by decide +kernel
theorem f_75_34 : mj_fetch 75 34 = some (.ifCond .ne 6, 0, 0) := by decide +kernel
theorem f_75_37 : mj_fetch 75 37 = some (.ldc 124, 4293967296, 0) := by decide +kernel
theorem f_75_39 : mj_fetch 75 39 = some (.ireturn, 0, 0) := by decide +kernel
theorem f_75_40 : mj_fetch 75 40 = some (.iload 4, 0, 0) := by decide +kernel
theorem f_75_42 : mj_fetch 75 42 = some (.tableswitch 70 0 3 #[30, 40, 50, 60], 0, 0) := by decide +kernel
theorem f_75_72 : mj_fetch 75 72 = some (.aload_n 0, 0, 0) := by decide +kernel
theorem f_75_73 : mj_fetch 75 73 = some (.getfield 30, 10, 3) := by decide +kernel
theorem f_75_76 : mj_fetch 75 76 = some (.getfield 125, 0, 0) := by decide +kernel
theorem f_75_79 : mj_fetch 75 79 = some (.iload_n 3, 0, 0) := by decide +kernel
theorem f_75_80 : mj_fetch 75 80 = some (.iaload, 0, 0) := by decide +kernel
theorem f_75_81 : mj_fetch 75 81 = some (.ireturn, 0, 0) := by decide +kernel
theorem f_75_82 : mj_fetch 75 82 = some (.aload_n 0, 0, 0) := by decide +kernel
theorem f_75_83 : mj_fetch 75 83 = some (.getfield 30, 10, 3) := by decide +kernel
theorem f_75_86 : mj_fetch 75 86 = some (.getfield 128, 0, 1) := by decide +kernel
theorem f_75_89 : mj_fetch 75 89 = some (.iload_n 3, 0, 0) := by decide +kernel
theorem f_75_90 : mj_fetch 75 90 = some (.iaload, 0, 0) := by decide +kernel
theorem f_75_91 : mj_fetch 75 91 = some (.ireturn, 0, 0) := by decide +kernel
theorem f_75_92 : mj_fetch 75 92 = some (.aload_n 0, 0, 0) := by decide +kernel
theorem f_75_93 : mj_fetch 75 93 = some (.getfield 30, 10, 3) := by decide +kernel
theorem f_75_96 : mj_fetch 75 96 = some (.getfield 131, 0, 2) := by decide +kernel
theorem f_75_99 : mj_fetch 75 99 = some (.iload_n 3, 0, 0) := by decide +kernel
theorem f_75_100 : mj_fetch 75 100 = some (.iaload, 0, 0) := by decide +kernel
theorem f_75_101 : mj_fetch 75 101 = some (.ireturn, 0, 0) := by decide +kernel
theorem f_75_102 : mj_fetch 75 102 = some (.aload_n 0, 0, 0) := by decide +kernel
theorem f_75_103 : mj_fetch 75 103 = some (.getfield 30, 10, 3) := by decide +kernel
theorem f_75_106 : mj_fetch 75 106 = some (.getfield 134, 0, 3) := by decide +kernel
theorem f_75_109 : mj_fetch 75 109 = some (.iload_n 3, 0, 0) := by decide +kernel
theorem f_75_110 : mj_fetch 75 110 = some (.iaload, 0, 0) := by decide +kernel
theorem f_75_111 : mj_fetch 75 111 = some (.ireturn, 0, 0) := by decide +kernel
theorem f_75_112 : mj_fetch 75 112 = some (.ldc 124, 4293967296, 0) := by decide +kernel
theorem f_75_114 : mj_fetch 75 114 = some (.ireturn, 0, 0) := by decide +kernel
theorem f_76_0 : mj_fetch 76 0 = some (.aload_n 0, 0, 0) := by decide +kernel
theorem f_76_1 : mj_fetch 76 1 = some (.iload_n 1, 0, 0) := by decide +kernel
theorem f_76_2 : mj_fetch 76 2 = some (.iload_n 2, 0, 0) := by decide +kernel
theorem f_76_3 : mj_fetch 76 3 = some (.invokevirtual 117, 103, 0) := by decide +kernel
theorem f_76_6 : mj_fetch 76 6 = some (.ifCond .eq 13, 0, 0) := by decide +kernel
theorem f_76_9 : mj_fetch 76 9 = some (.aload_n 0, 0, 0) := by decide +kernel
theorem f_76_10 : mj_fetch 76 10 = some (.getfield 30, 10, 3) := by decide +kernel
theorem f_76_13 : mj_fetch 76 13 = some (.getfield 137, 0, 8) := by decide +kernel
theorem f_76_16 : mj_fetch 76 16 = some (.goto 4, 0, 0) := by decide +kernel
theorem f_76_19 : mj_fetch 76 19 = some (.iconst (-1), 0, 0) := by decide +kernel
theorem f_76_20 : mj_fetch 76 20 = some (.ireturn, 0, 0) := by decide +kernel
theorem f_77_0 : mj_fetch 77 0 = some (.aload_n 0, 0, 0) := by decide +kernel
theorem f_77_1 : mj_fetch 77 1 = some (.iload_n 1, 0, 0) := by decide +kernel
theorem f_77_2 : mj_fetch 77 2 = some (.iload_n 2, 0, 0) := by decide +kernel
theorem f_77_3 : mj_fetch 77 3 = some (.invokevirtual 117, 103, 0) := by decide +kernel
theorem f_77_6 : mj_fetch 77 6 = some (.ifCond .eq 13, 0, 0) := by decide +kernel
theorem f_77_9 : mj_fetch 77 9 = some (.aload_n 0, 0, 0) := by decide +kernel
theorem f_77_10 : mj_fetch 77 10 = some (.getfield 30, 10, 3) := by decide +kernel
theorem f_77_13 : mj_fetch 77 13 = some (.getfield 140, 0, 6) := by decide +kernel
theorem f_77_16 : mj_fetch 77 16 = some (.goto 4, 0, 0) := by decide +kernel
theorem f_77_19 : mj_fetch 77 19 = some (.iconst (-1), 0, 0) := by decide +kernel
theorem f_77_20 : mj_fetch 77 20 = some (.ireturn, 0, 0) := by decide +kernel
theorem f_78_0 : mj_fetch 78 0 = some (.aload_n 0, 0, 0) := by decide +kernel
theorem f_78_1 : mj_fetch 78 1 = some (.iload_n 1, 0, 0) := by decide +kernel
theorem f_78_2 : mj_fetch 78 2 = some (.invokevirtual 101, 100, 0) := by decide +kernel
theorem f_78_5 : mj_fetch 78 5 = some (.astore 4, 0, 0) := by decide +kernel
theorem f_78_7 : mj_fetch 78 7 = some (.aload 4, 0, 0) := by decide +kernel
theorem f_78_9 : mj_fetch 78 9 = some (.ifnull 26, 0, 0) := by decide +kernel
theorem f_78_12 : mj_fetch 78 12 = some (.iload_n 2, 0, 0) := by decide +kernel
theorem f_78_13 : mj_fetch 78 13 = some (.invokestatic 143, 107, 0) := by decide +kernel
theorem f_78_16 : mj_fetch 78 16 = some (.ifCond .eq 19, 0, 0) := by decide +kernel
theorem f_78_19 : mj_fetch 78 19 = some (.iload_n 3, 0, 0) := by decide +kernel
theorem f_78_20 : mj_fetch 78 20 = some (.invokestatic 143, 107, 0) := by decide +kernel
theorem f_78_23 : mj_fetch 78 23 = some (.ifCond .eq 12, 0, 0) := by decide +kernel
theorem f_78_26 : mj_fetch 78 26 = some (.aload_n 0, 0, 0) := by decide +kernel
theorem f_78_27 : mj_fetch 78 27 = some (.getfield 146, 10, 12) := by decide +kernel
theorem f_78_30 : mj_fetch 78 30 = some (.bipush 10, 0, 0) := by decide +kernel
theorem f_78_32 : mj_fetch 78 32 = some (.if_icmp .ne 5, 0, 0) := by decide +kernel
theorem f_78_35 : mj_fetch 78 35 = some (.iconst (-1), 0, 0) := by decide +kernel
theorem f_78_36 : mj_fetch 78 36 = some (.ireturn, 0, 0) := by decide +kernel
theorem f_78_37 : mj_fetch 78 37 = some (.iconst 0, 0, 0) := by decide +kernel
theorem f_78_38 : mj_fetch 78 38 = some (.istore 5, 0, 0) := by decide +kernel
theorem f_78_40 : mj_fetch 78 40 = some (.iload 5, 0, 0) := by decide +kernel
theorem f_78_42 : mj_fetch 78 42 = some (.iconst 3, 0, 0) := by decide +kernel
theorem f_78_43 : mj_fetch 78 43 = some (.if_icmp .ge 38, 0, 0) := by decide +kernel
theorem f_78_46 : mj_fetch 78 46 = some (.iload_n 3, 0, 0) := by decide +kernel
theorem f_78_47 : mj_fetch 78 47 = some (.iload 5, 0, 0) := by decide +kernel
theorem f_78_49 : mj_fetch 78 49 = some (.invokestatic 149, 108, 0) := by decide +kernel
theorem f_78_52 : mj_fetch 78 52 = some (.iload_n 2, 0, 0) := by decide +kernel
theorem f_78_53 : mj_fetch 78 53 = some (.iload 5, 0, 0) := by decide +kernel
theorem f_78_55 : mj_fetch 78 55 = some (.invokestatic 149, 108, 0) := by decide +kernel
theorem f_78_58 : mj_fetch 78 58 = some (.isub, 0, 0) := by decide +kernel
theorem f_78_59 : mj_fetch 78 59 = some (.istore 6, 0, 0) := by decide +kernel
theorem f_78_61 : mj_fetch 78 61 = some (.iload 6, 0, 0) := by decide +kernel
theorem f_78_63 : mj_fetch 78 63 = some (.ifCond .lt 10, 0, 0) := by decide +kernel
theorem f_78_66 : mj_fetch 78 66 = some (.iload 6, 0, 0) := by decide +kernel
theorem f_78_68 : mj_fetch 78 68 = some (.bipush 6, 0, 0) := by decide +kernel
theorem f_78_70 : mj_fetch 78 70 = some (.if_icmp .lt 5, 0, 0) := by decide +kernel
theorem f_78_73 : mj_fetch 78 73 = some (.iconst (-1), 0, 0) := by decide +kernel
theorem f_78_74 : mj_fetch 78 74 = some (.ireturn, 0, 0) := by decide +kernel
theorem f_78_75 : mj_fetch 78 75 = some (.iinc 5 1, 0, 0) := by decide +kernel
theorem f_78_78 : mj_fetch 78 78 = some (.goto (-38), 0, 0) := by decide +kernel
theorem f_78_81 : mj_fetch 78 81 = some (.aload_n 0, 0, 0) := by decide +kernel
theorem f_78_82 : mj_fetch 78 82 = some (.getfield 23, 10, 2) := by decide +kernel
theorem f_78_85 : mj_fetch 78 85 = some (.aload_n 0, 0, 0) := by decide +kernel
theorem f_78_86 : mj_fetch 78 86 = some (.getfield 146, 10, 12) := by decide +kernel
theorem f_78_89 : mj_fetch 78 89 = some (.new 21, 9, 0) := by decide +kernel
theorem f_78_92 : mj_fetch 78 92 = some (.dup, 0, 0) := by decide +kernel
theorem f_78_93 : mj_fetch 78 93 = some (.aload 4, 0, 0) := by decide +kernel
theorem f_78_95 : mj_fetch 78 95 = some (.iload_n 2, 0, 0) := by decide +kernel
theorem f_78_96 : mj_fetch 78 96 = some (.iload_n 3, 0, 0) := by decide +kernel
theorem f_78_97 : mj_fetch 78 97 = some (.invokespecial 153, 66, 0) := by decide +kernel
theorem f_78_100 : mj_fetch 78 100 = some (.aastore, 0, 0) := by decide +kernel
theorem f_78_101 : mj_fetch 78 101 = some (.aload_n 0, 0, 0) := by decide +kernel
theorem f_78_102 : mj_fetch 78 102 = some (.dup, 0, 0) := by decide +kernel
theorem f_78_103 : mj_fetch 78 103 = some (.getfield 146, 10, 12) := by decide +kernel
theorem f_78_106 : mj_fetch 78 106 = some (.iconst 1, 0, 0) := by decide +kernel
theorem f_78_107 : mj_fetch 78 107 = some (.iadd, 0, 0) := by decide +kernel
theorem f_78_108 : mj_fetch 78 108 = some (.putfield 146, 10, 12) := by decide +kernel
theorem f_78_111 : mj_fetch 78 111 = some (.aload_n 0, 0, 0) := by decide +kernel
theorem f_78_112 : mj_fetch 78 112 = some (.getfield 146, 10, 12) := by decide +kernel
theorem f_78_115 : mj_fetch 78 115 = some (.iconst 1, 0, 0) := by decide +kernel
theorem f_78_116 : mj_fetch 78 116 = some (.isub, 0, 0) := by decide +kernel
theorem f_78_117 : mj_fetch 78 117 = some (.ireturn, 0, 0) := by decide +kernel
theorem f_79_0 : mj_fetch 79 0 = some (.aload_n 0, 0, 0) := by decide +kernel
theorem f_79_1 : mj_fetch 79 1 = some (.iload_n 1, 0, 0) := by decide +kernel
theorem f_79_2 : mj_fetch 79 2 = some (.invokevirtual 156, 101, 0) := by decide +kernel
theorem f_79_5 : mj_fetch 79 5 = some (.astore_n 2, 0, 0) := by decide +kernel
theorem f_79_6 : mj_fetch 79 6 = some (.aload_n 2, 0, 0) := by decide +kernel
theorem f_79_7 : mj_fetch 79 7 = some (.ifnonnull 5, 0, 0) := by decide +kernel
theorem f_79_10 : mj_fetch 79 10 = some (.iconst (-1), 0, 0) := by decide +kernel
theorem f_79_11 : mj_fetch 79 11 = some (.ireturn, 0, 0) := by decide +kernel
theorem f_79_12 : mj_fetch 79 12 = some (.iconst 0, 0, 0) := by decide +kernel
theorem f_79_13 : mj_fetch 79 13 = some (.istore_n 3, 0, 0) := by decide +kernel
theorem f_79_14 : mj_fetch 79 14 = some (.aload_n 2, 0, 0) := by decide +kernel
theorem f_79_15 : mj_fetch 79 15 = some (.getfield 160, 9, 1) := by decide +kernel
theorem f_79_18 : mj_fetch 79 18 = some (.istore 4, 0, 0) := by decide +kernel
theorem f_79_20 : mj_fetch 79 20 = some (.iload 4, 0, 0) := by decide +kernel
theorem f_79_22 : mj_fetch 79 22 = some (.aload_n 2, 0, 0) := by decide +kernel
theorem f_79_23 : mj_fetch 79 23 = some (.getfield 163, 9, 2) := by decide +kernel
theorem f_79_26 : mj_fetch 79 26 = some (.if_icmp .gt 44, 0, 0) := by decide +kernel
theorem f_79_29 : mj_fetch 79 29 = some (.aload_n 2, 0, 0) := by decide +kernel
theorem f_79_30 : mj_fetch 79 30 = some (.getfield 160, 9, 1) := by decide +kernel
theorem f_79_33 : mj_fetch 79 33 = some (.aload_n 2, 0, 0) := by decide +kernel
theorem f_79_34 : mj_fetch 79 34 = some (.getfield 163, 9, 2) := by decide +kernel
theorem f_79_37 : mj_fetch 79 37 = some (.iload 4, 0, 0) := by decide +kernel
theorem f_79_39 : mj_fetch 79 39 = some (.invokestatic 166, 109, 0) := by decide +kernel
theorem f_79_42 : mj_fetch 79 42 = some (.ifCond .eq 22, 0, 0) := by decide +kernel
theorem f_79_45 : mj_fetch 79 45 = some (.aload_n 0, 0, 0) := by decide +kernel
theorem f_79_46 : mj_fetch 79 46 = some (.getfield 30, 10, 3) := by decide +kernel
theorem f_79_49 : mj_fetch 79 49 = some (.aload_n 2, 0, 0) := by decide +kernel
theorem f_79_50 : mj_fetch 79 50 = some (.getfield 170, 9, 0) := by decide +kernel
theorem f_79_53 : mj_fetch 79 53 = some (.iload 4, 0, 0) := by decide +kernel
theorem f_79_55 : mj_fetch 79 55 = some (.invokevirtual 174, 1, 0) := by decide +kernel
theorem f_79_58 : mj_fetch 79 58 = some (.ifCond .eq 6, 0, 0) := by decide +kernel
theorem f_79_61 : mj_fetch 79 61 = some (.iinc 3 1, 0, 0) := by decide +kernel
theorem f_79_64 : mj_fetch 79 64 = some (.iinc 4 1, 0, 0) := by decide +kernel
theorem f_79_67 : mj_fetch 79 67 = some (.goto (-47), 0, 0) := by decide +kernel
theorem f_79_70 : mj_fetch 79 70 = some (.iload_n 3, 0, 0) := by decide +kernel
theorem f_79_71 : mj_fetch 79 71 = some (.ireturn, 0, 0) := by decide +kernel
theorem f_80_0 : mj_fetch 80 0 = some (.aload_n 0, 0, 0) := by decide +kernel
theorem f_80_1 : mj_fetch 80 1 = some (.iload_n 1, 0, 0) := by decide +kernel
theorem f_80_2 : mj_fetch 80 2 = some (.invokevirtual 156, 101, 0) := by decide +kernel
theorem f_80_5 : mj_fetch 80 5 = some (.astore_n 2, 0, 0) := by decide +kernel
theorem f_80_6 : mj_fetch 80 6 = some (.aload_n 2, 0, 0) := by decide +kernel
theorem f_80_7 : mj_fetch 80 7 = some (.ifnonnull 7, 0, 0) := by decide +kernel
theorem f_80_10 : mj_fetch 80 10 = some (.iconst (-1), 0, 0) := by decide +kernel
theorem f_80_11 : mj_fetch 80 11 = some (.goto 13, 0, 0) := by decide +kernel
theorem f_80_14 : mj_fetch 80 14 = some (.aload_n 0, 0, 0) := by decide +kernel
theorem f_80_15 : mj_fetch 80 15 = some (.aload_n 2, 0, 0) := by decide +kernel
theorem f_80_16 : mj_fetch 80 16 = some (.invokevirtual 178, 104, 0) := by decide +kernel
theorem f_80_19 : mj_fetch 80 19 = some (.arraylength, 0, 0) := by decide +kernel
theorem f_80_20 : mj_fetch 80 20 = some (.iconst 1, 0, 0) := by decide +kernel
theorem f_80_21 : mj_fetch 80 21 = some (.iadd, 0, 0) := by decide +kernel
theorem f_80_22 : mj_fetch 80 22 = some (.iconst 2, 0, 0) := by decide +kernel
theorem f_80_23 : mj_fetch 80 23 = some (.idiv, 0, 0) := by decide +kernel
theorem f_80_24 : mj_fetch 80 24 = some (.ireturn, 0, 0) := by decide +kernel
theorem f_81_0 : mj_fetch 81 0 = some (.aload_n 0, 0, 0) := by decide +kernel
theorem f_81_1 : mj_fetch 81 1 = some (.iload_n 1, 0, 0) := by decide +kernel
theorem f_81_2 : mj_fetch 81 2 = some (.invokevirtual 156, 101, 0) := by decide +kernel
theorem f_81_5 : mj_fetch 81 5 = some (.astore_n 3, 0, 0) := by decide +kernel
theorem f_81_6 : mj_fetch 81 6 = some (.aload_n 3, 0, 0) := by decide +kernel
theorem f_81_7 : mj_fetch 81 7 = some (.ifnonnull 5, 0, 0) := by decide +kernel
theorem f_81_10 : mj_fetch 81 10 = some (.iconst (-1), 0, 0) := by decide +kernel
theorem f_81_11 : mj_fetch 81 11 = some (.ireturn, 0, 0) := by decide +kernel
theorem f_81_12 : mj_fetch 81 12 = some (.aload_n 0, 0, 0) := by decide +kernel
theorem f_81_13 : mj_fetch 81 13 = some (.aload_n 3, 0, 0) := by decide +kernel
theorem f_81_14 : mj_fetch 81 14 = some (.invokevirtual 178, 104, 0) := by decide +kernel
theorem f_81_17 : mj_fetch 81 17 = some (.astore 4, 0, 0) := by decide +kernel
theorem f_81_19 : mj_fetch 81 19 = some (.iload_n 2, 0, 0) := by decide +kernel
theorem f_81_20 : mj_fetch 81 20 = some (.iconst (-1), 0, 0) := by decide +kernel
theorem f_81_21 : mj_fetch 81 21 = some (.if_icmp .ne 7, 0, 0) := by decide +kernel
theorem f_81_24 : mj_fetch 81 24 = some (.aload 4, 0, 0) := by decide +kernel
theorem f_81_26 : mj_fetch 81 26 = some (.arraylength, 0, 0) := by decide +kernel
theorem f_81_27 : mj_fetch 81 27 = some (.ireturn, 0, 0) := by decide +kernel
theorem f_81_28 : mj_fetch 81 28 = some (.iload_n 2, 0, 0) := by decide +kernel
theorem f_81_29 : mj_fetch 81 29 = some (.ifCond .lt 17, 0, 0) := by decide +kernel
theorem f_81_32 : mj_fetch 81 32 = some (.iload_n 2, 0, 0) := by decide +kernel
theorem f_81_33 : mj_fetch 81 33 = some (.aload 4, 0, 0) := by decide +kernel
theorem f_81_35 : mj_fetch 81 35 = some (.arraylength, 0, 0) := by decide +kernel
theorem f_81_36 : mj_fetch 81 36 = some (.if_icmp .ge 10, 0, 0) := by decide +kernel
theorem f_81_39 : mj_fetch 81 39 = some (.aload 4, 0, 0) := by decide +kernel
theorem f_81_41 : mj_fetch 81 41 = some (.iload_n 2, 0, 0) := by decide +kernel
theorem f_81_42 : mj_fetch 81 42 = some (.iaload, 0, 0) := by decide +kernel
theorem f_81_43 : mj_fetch 81 43 = some (.goto 4, 0, 0) := by decide +kernel
theorem f_81_46 : mj_fetch 81 46 = some (.iconst (-1), 0, 0) := by decide +kernel
theorem f_81_47 : mj_fetch 81 47 = some (.ireturn, 0, 0) := by decide +kernel
theorem f_82_0 : mj_fetch 82 0 = some (.aload_n 0, 0, 0) := by decide +kernel
theorem f_82_1 : mj_fetch 82 1 = some (.getfield 44, 10, 5) := by decide +kernel
theorem f_82_4 : mj_fetch 82 4 = some (.iload_n 1, 0, 0) := by decide +kernel
theorem f_82_5 : mj_fetch 82 5 = some (.invokevirtual 182, 53, 0) := by decide +kernel
theorem f_82_8 : mj_fetch 82 8 = some (.ifCond .eq 13, 0, 0) := by decide +kernel
theorem f_82_11 : mj_fetch 82 11 = some (.aload_n 0, 0, 0) := by decide +kernel
theorem f_82_12 : mj_fetch 82 12 = some (.getfield 44, 10, 5) := by decide +kernel
theorem f_82_15 : mj_fetch 82 15 = some (.getfield 185, 7, 1) := by decide +kernel
theorem f_82_18 : mj_fetch 82 18 = some (.goto 4, 0, 0) := by decide +kernel
theorem f_82_21 : mj_fetch 82 21 = some (.iconst (-1), 0, 0) := by decide +kernel
theorem f_82_22 : mj_fetch 82 22 = some (.ireturn, 0, 0) := by decide +kernel
theorem f_83_0 : mj_fetch 83 0 = some (.aload_n 0, 0, 0) := by decide +kernel
theorem f_83_1 : mj_fetch 83 1 = some (.iload_n 1, 0, 0) := by decide +kernel
theorem f_83_2 : mj_fetch 83 2 = some (.invokevirtual 156, 101, 0) := by decide +kernel
theorem f_83_5 : mj_fetch 83 5 = some (.astore_n 2, 0, 0) := by decide +kernel
theorem f_83_6 : mj_fetch 83 6 = some (.aload_n 2, 0, 0) := by decide +kernel
theorem f_83_7 : mj_fetch 83 7 = some (.ifnonnull 5, 0, 0) := by decide +kernel
theorem f_83_10 : mj_fetch 83 10 = some (.iconst (-1), 0, 0) := by decide +kernel
theorem f_83_11 : mj_fetch 83 11 = some (.ireturn, 0, 0) := by decide +kernel
theorem f_83_12 : mj_fetch 83 12 = some (.aload_n 0, 0, 0) := by decide +kernel
theorem f_83_13 : mj_fetch 83 13 = some (.getfield 44, 10, 5) := by decide +kernel
theorem f_83_16 : mj_fetch 83 16 = some (.aload_n 0, 0, 0) := by decide +kernel
theorem f_83_17 : mj_fetch 83 17 = some (.aload_n 2, 0, 0) := by decide +kernel
theorem f_83_18 : mj_fetch 83 18 = some (.invokevirtual 178, 104, 0) := by decide +kernel
theorem f_83_21 : mj_fetch 83 21 = some (.invokevirtual 188, 56, 0) := by decide +kernel
theorem f_83_24 : mj_fetch 83 24 = some (.aload_n 0, 0, 0) := by decide +kernel
theorem f_83_25 : mj_fetch 83 25 = some (.getfield 44, 10, 5) := by decide +kernel
theorem f_83_28 : mj_fetch 83 28 = some (.getfield 185, 7, 1) := by decide +kernel
theorem f_83_31 : mj_fetch 83 31 = some (.ireturn, 0, 0) := by decide +kernel
theorem f_84_0 : mj_fetch 84 0 = some (.aload_n 0, 0, 0) := by decide +kernel
theorem f_84_1 : mj_fetch 84 1 = some (.getfield 44, 10, 5) := by decide +kernel
theorem f_84_4 : mj_fetch 84 4 = some (.iload_n 1, 0, 0) := by decide +kernel
theorem f_84_5 : mj_fetch 84 5 = some (.iload_n 2, 0, 0) := by decide +kernel
theorem f_84_6 : mj_fetch 84 6 = some (.invokevirtual 191, 54, 0) := by decide +kernel
theorem f_84_9 : mj_fetch 84 9 = some (.ireturn, 0, 0) := by decide +kernel
theorem f_85_0 : mj_fetch 85 0 = some (.aload_n 0, 0, 0) := by decide +kernel
theorem f_85_1 : mj_fetch 85 1 = some (.getfield 44, 10, 5) := by decide +kernel
theorem f_85_4 : mj_fetch 85 4 = some (.iload_n 1, 0, 0) := by decide +kernel
theorem f_85_5 : mj_fetch 85 5 = some (.invokevirtual 194, 55, 0) := by decide +kernel
theorem f_85_8 : mj_fetch 85 8 = some (.ireturn, 0, 0) := by decide +kernel
theorem f_86_0 : mj_fetch 86 0 = some (.aload_n 0, 0, 0) := by decide +kernel
theorem f_86_1 : mj_fetch 86 1 = some (.iload_n 1, 0, 0) := by decide +kernel
theorem f_86_2 : mj_fetch 86 2 = some (.invokevirtual 156, 101, 0) := by decide +kernel
theorem f_86_5 : mj_fetch 86 5 = some (.astore_n 2, 0, 0) := by decide +kernel
theorem f_86_6 : mj_fetch 86 6 = some (.aload_n 2, 0, 0) := by decide +kernel
theorem f_86_7 : mj_fetch 86 7 = some (.ifnonnull 6, 0, 0) := by decide +kernel
theorem f_86_10 : mj_fetch 86 10 = some (.bipush (-2), 0, 0) := by decide +kernel
theorem f_86_12 : mj_fetch 86 12 = some (.ireturn, 0, 0) := by decide +kernel
theorem f_86_13 : mj_fetch 86 13 = some (.aload_n 0, 0, 0) := by decide +kernel
theorem f_86_14 : mj_fetch 86 14 = some (.getfield 37, 10, 4) := by decide +kernel
theorem f_86_17 : mj_fetch 86 17 = some (.aload_n 2, 0, 0) := by decide +kernel
theorem f_86_18 : mj_fetch 86 18 = some (.getfield 160, 9, 1) := by decide +kernel
theorem f_86_21 : mj_fetch 86 21 = some (.aload_n 2, 0, 0) := by decide +kernel
theorem f_86_22 : mj_fetch 86 22 = some (.getfield 163, 9, 2) := by decide +kernel
theorem f_86_25 : mj_fetch 86 25 = some (.invokevirtual 197, 59, 0) := by decide +kernel
theorem f_86_28 : mj_fetch 86 28 = some (.iconst 0, 0, 0) := by decide +kernel
theorem f_86_29 : mj_fetch 86 29 = some (.istore_n 3, 0, 0) := by decide +kernel
theorem f_86_30 : mj_fetch 86 30 = some (.iload_n 3, 0, 0) := by decide +kernel
theorem f_86_31 : mj_fetch 86 31 = some (.aload_n 0, 0, 0) := by decide +kernel
theorem f_86_32 : mj_fetch 86 32 = some (.getfield 44, 10, 5) := by decide +kernel
theorem f_86_35 : mj_fetch 86 35 = some (.getfield 185, 7, 1) := by decide +kernel
theorem f_86_38 : mj_fetch 86 38 = some (.if_icmp .ge 57, 0, 0) := by decide +kernel
theorem f_86_41 : mj_fetch 86 41 = some (.aload_n 0, 0, 0) := by decide +kernel
theorem f_86_42 : mj_fetch 86 42 = some (.getfield 37, 10, 4) := by decide +kernel
theorem f_86_45 : mj_fetch 86 45 = some (.invokevirtual 200, 61, 0) := by decide +kernel
theorem f_86_48 : mj_fetch 86 48 = some (.ifCond .eq 23, 0, 0) := by decide +kernel
theorem f_86_51 : mj_fetch 86 51 = some (.aload_n 0, 0, 0) := by decide +kernel
theorem f_86_52 : mj_fetch 86 52 = some (.aload_n 2, 0, 0) := by decide +kernel
theorem f_86_53 : mj_fetch 86 53 = some (.getfield 170, 9, 0) := by decide +kernel
theorem f_86_56 : mj_fetch 86 56 = some (.aload_n 0, 0, 0) := by decide +kernel
theorem f_86_57 : mj_fetch 86 57 = some (.getfield 44, 10, 5) := by decide +kernel
theorem f_86_60 : mj_fetch 86 60 = some (.getfield 204, 7, 0) := by decide +kernel
theorem f_86_63 : mj_fetch 86 63 = some (.iload_n 3, 0, 0) := by decide +kernel
theorem f_86_64 : mj_fetch 86 64 = some (.iaload, 0, 0) := by decide +kernel
theorem f_86_65 : mj_fetch 86 65 = some (.invokevirtual 207, 105, 0) := by decide +kernel
theorem f_86_68 : mj_fetch 86 68 = some (.ifCond .ne 5, 0, 0) := by decide +kernel
theorem f_86_71 : mj_fetch 86 71 = some (.iload_n 3, 0, 0) := by decide +kernel
theorem f_86_72 : mj_fetch 86 72 = some (.ireturn, 0, 0) := by decide +kernel
theorem f_86_73 : mj_fetch 86 73 = some (.aload_n 0, 0, 0) := by decide +kernel
theorem f_86_74 : mj_fetch 86 74 = some (.getfield 37, 10, 4) := by decide +kernel
theorem f_86_77 : mj_fetch 86 77 = some (.aload_n 0, 0, 0) := by decide +kernel
theorem f_86_78 : mj_fetch 86 78 = some (.getfield 44, 10, 5) := by decide +kernel
theorem f_86_81 : mj_fetch 86 81 = some (.getfield 204, 7, 0) := by decide +kernel
theorem f_86_84 : mj_fetch 86 84 = some (.iload_n 3, 0, 0) := by decide +kernel
theorem f_86_85 : mj_fetch 86 85 = some (.iaload, 0, 0) := by decide +kernel
theorem f_86_86 : mj_fetch 86 86 = some (.invokevirtual 210, 63, 0) := by decide +kernel
theorem f_86_89 : mj_fetch 86 89 = some (.iinc 3 1, 0, 0) := by decide +kernel
theorem f_86_92 : mj_fetch 86 92 = some (.goto (-62), 0, 0) := by decide +kernel
theorem f_86_95 : mj_fetch 86 95 = some (.aload_n 0, 0, 0) := by decide +kernel
theorem f_86_96 : mj_fetch 86 96 = some (.getfield 37, 10, 4) := by decide +kernel
theorem f_86_99 : mj_fetch 86 99 = some (.getfield 213, 8, 2) := by decide +kernel
theorem f_86_102 : mj_fetch 86 102 = some (.ifCond .ne 7, 0, 0) := by decide +kernel
theorem f_86_105 : mj_fetch 86 105 = some (.iconst (-1), 0, 0) := by decide +kernel
theorem f_86_106 : mj_fetch 86 106 = some (.goto 10, 0, 0) := by decide +kernel
theorem f_86_109 : mj_fetch 86 109 = some (.aload_n 0, 0, 0) := by decide +kernel
theorem f_86_110 : mj_fetch 86 110 = some (.getfield 44, 10, 5) := by decide +kernel
theorem f_86_113 : mj_fetch 86 113 = some (.getfield 185, 7, 1) := by decide +kernel
theorem f_86_116 : mj_fetch 86 116 = some (.ireturn, 0, 0) := by decide +kernel
theorem f_87_0 : mj_fetch 87 0 = some (.aload_n 0, 0, 0) := by decide +kernel
theorem f_87_1 : mj_fetch 87 1 = some (.iload_n 1, 0, 0) := by decide +kernel
theorem f_87_2 : mj_fetch 87 2 = some (.invokevirtual 156, 101, 0) := by decide +kernel
theorem f_87_5 : mj_fetch 87 5 = some (.astore_n 3, 0, 0) := by decide +kernel
theorem f_87_6 : mj_fetch 87 6 = some (.aload_n 3, 0, 0) := by decide +kernel
theorem f_87_7 : mj_fetch 87 7 = some (.ifnonnull 5, 0, 0) := by decide +kernel
theorem f_87_10 : mj_fetch 87 10 = some (.iconst (-1), 0, 0) := by decide +kernel
theorem f_87_11 : mj_fetch 87 11 = some (.ireturn, 0, 0) := by decide +kernel
theorem f_87_12 : mj_fetch 87 12 = some (.aload_n 0, 0, 0) := by decide +kernel
theorem f_87_13 : mj_fetch 87 13 = some (.aload_n 3, 0, 0) := by decide +kernel
theorem f_87_14 : mj_fetch 87 14 = some (.invokevirtual 178, 104, 0) := by decide +kernel
theorem f_87_17 : mj_fetch 87 17 = some (.arraylength, 0, 0) := by decide +kernel
theorem f_87_18 : mj_fetch 87 18 = some (.ifCond .eq 10, 0, 0) := by decide +kernel
theorem f_87_21 : mj_fetch 87 21 = some (.aload_n 3, 0, 0) := by decide +kernel
theorem f_87_22 : mj_fetch 87 22 = some (.getfield 216, 9, 6) := by decide +kernel
theorem f_87_25 : mj_fetch 87 25 = some (.ifCond .ne 5, 0, 0) := by decide +kernel
theorem f_87_28 : mj_fetch 87 28 = some (.iconst (-1), 0, 0) := by decide +kernel
theorem f_87_29 : mj_fetch 87 29 = some (.ireturn, 0, 0) := by decide +kernel
theorem f_87_30 : mj_fetch 87 30 = some (.iload_n 2, 0, 0) := by decide +kernel
theorem f_87_31 : mj_fetch 87 31 = some (.tableswitch 40 0 2 #[25, 30, 35], 0, 0) := by decide +kernel
theorem f_87_56 : mj_fetch 87 56 = some (.aload_n 3, 0, 0) := by decide +kernel
theorem f_87_57 : mj_fetch 87 57 = some (.getfield 219, 9, 4) := by decide +kernel
theorem f_87_60 : mj_fetch 87 60 = some (.ireturn, 0, 0) := by decide +kernel
theorem f_87_61 : mj_fetch 87 61 = some (.aload_n 3, 0, 0) := by decide +kernel
theorem f_87_62 : mj_fetch 87 62 = some (.getfield 222, 9, 5) := by decide +kernel
theorem f_87_65 : mj_fetch 87 65 = some (.ireturn, 0, 0) := by decide +kernel
theorem f_87_66 : mj_fetch 87 66 = some (.aload_n 3, 0, 0) := by decide +kernel
theorem f_87_67 : mj_fetch 87 67 = some (.getfield 216, 9, 6) := by decide +kernel
theorem f_87_70 : mj_fetch 87 70 = some (.ireturn, 0, 0) := by decide +kernel
theorem f_87_71 : mj_fetch 87 71 = some (.iconst (-1), 0, 0) := by decide +kernel
theorem f_87_72 : mj_fetch 87 72 = some (.ireturn, 0, 0) := by decide +kernel
theorem f_88_0 : mj_fetch 88 0 = some (.aload_n 0, 0, 0) := by decide +kernel
theorem f_88_1 : mj_fetch 88 1 = some (.iload_n 1, 0, 0) := by decide +kernel
theorem f_88_2 : mj_fetch 88 2 = some (.invokevirtual 156, 101, 0) := by decide +kernel
theorem f_88_5 : mj_fetch 88 5 = some (.astore_n 3, 0, 0) := by decide +kernel
theorem f_88_6 : mj_fetch 88 6 = some (.aload_n 3, 0, 0) := by decide +kernel
theorem f_88_7 : mj_fetch 88 7 = some (.ifnull 25, 0, 0) := by decide +kernel
theorem f_88_10 : mj_fetch 88 10 = some (.iload_n 2, 0, 0) := by decide +kernel
theorem f_88_11 : mj_fetch 88 11 = some (.invokestatic 143, 107, 0) := by decide +kernel
theorem f_88_14 : mj_fetch 88 14 = some (.ifCond .eq 18, 0, 0) := by decide +kernel
theorem f_88_17 : mj_fetch 88 17 = some (.aload_n 3, 0, 0) := by decide +kernel
theorem f_88_18 : mj_fetch 88 18 = some (.getfield 160, 9, 1) := by decide +kernel
theorem f_88_21 : mj_fetch 88 21 = some (.aload_n 3, 0, 0) := by decide +kernel
theorem f_88_22 : mj_fetch 88 22 = some (.getfield 163, 9, 2) := by decide +kernel
theorem f_88_25 : mj_fetch 88 25 = some (.iload_n 2, 0, 0) := by decide +kernel
theorem f_88_26 : mj_fetch 88 26 = some (.invokestatic 166, 109, 0) := by decide +kernel
theorem f_88_29 : mj_fetch 88 29 = some (.ifCond .ne 5, 0, 0) := by decide +kernel
theorem f_88_32 : mj_fetch 88 32 = some (.iconst (-1), 0, 0) := by decide +kernel
theorem f_88_33 : mj_fetch 88 33 = some (.ireturn, 0, 0) := by decide +kernel
theorem f_88_34 : mj_fetch 88 34 = some (.aload_n 0, 0, 0) := by decide +kernel
theorem f_88_35 : mj_fetch 88 35 = some (.getfield 30, 10, 3) := by decide +kernel
theorem f_88_38 : mj_fetch 88 38 = some (.aload_n 3, 0, 0) := by decide +kernel
theorem f_88_39 : mj_fetch 88 39 = some (.getfield 170, 9, 0) := by decide +kernel
theorem f_88_42 : mj_fetch 88 42 = some (.iload_n 2, 0, 0) := by decide +kernel
theorem f_88_43 : mj_fetch 88 43 = some (.invokevirtual 174, 1, 0) := by decide +kernel
theorem f_88_46 : mj_fetch 88 46 = some (.istore 4, 0, 0) := by decide +kernel
theorem f_88_48 : mj_fetch 88 48 = some (.iconst (-1), 0, 0) := by decide +kernel
theorem f_88_49 : mj_fetch 88 49 = some (.istore 5, 0, 0) := by decide +kernel
theorem f_88_51 : mj_fetch 88 51 = some (.iconst 0, 0, 0) := by decide +kernel
theorem f_88_52 : mj_fetch 88 52 = some (.istore 6, 0, 0) := by decide +kernel
theorem f_88_54 : mj_fetch 88 54 = some (.aload_n 3, 0, 0) := by decide +kernel
theorem f_88_55 : mj_fetch 88 55 = some (.getfield 160, 9, 1) := by decide +kernel
theorem f_88_58 : mj_fetch 88 58 = some (.istore 7, 0, 0) := by decide +kernel
theorem f_88_60 : mj_fetch 88 60 = some (.iload 7, 0, 0) := by decide +kernel
theorem f_88_62 : mj_fetch 88 62 = some (.aload_n 3, 0, 0) := by decide +kernel
theorem f_88_63 : mj_fetch 88 63 = some (.getfield 163, 9, 2) := by decide +kernel
theorem f_88_66 : mj_fetch 88 66 = some (.if_icmp .gt 84, 0, 0) := by decide +kernel
theorem f_88_69 : mj_fetch 88 69 = some (.iload_n 2, 0, 0) := by decide +kernel
theorem f_88_70 : mj_fetch 88 70 = some (.iload 7, 0, 0) := by decide +kernel
theorem f_88_72 : mj_fetch 88 72 = some (.invokestatic 225, 111, 0) := by decide +kernel
theorem f_88_75 : mj_fetch 88 75 = some (.istore 8, 0, 0) := by decide +kernel
theorem f_88_77 : mj_fetch 88 77 = some (.iload 5, 0, 0) := by decide +kernel
theorem f_88_79 : mj_fetch 88 79 = some (.iconst (-1), 0, 0) := by decide +kernel
theorem f_88_80 : mj_fetch 88 80 = some (.if_icmp .eq 10, 0, 0) := by decide +kernel
theorem f_88_83 : mj_fetch 88 83 = some (.iload 8, 0, 0) := by decide +kernel
theorem f_88_85 : mj_fetch 88 85 = some (.iload 6, 0, 0) := by decide +kernel
theorem f_88_87 : mj_fetch 88 87 = some (.if_icmp .ge 7, 0, 0) := by decide +kernel
theorem f_88_90 : mj_fetch 88 90 = some (.iconst 1, 0, 0) := by decide +kernel
theorem f_88_91 : mj_fetch 88 91 = some (.goto 4, 0, 0) := by decide +kernel
theorem f_88_94 : mj_fetch 88 94 = some (.iconst 0, 0, 0) := by decide +kernel
theorem f_88_95 : mj_fetch 88 95 = some (.istore 9, 0, 0) := by decide +kernel
theorem f_88_97 : mj_fetch 88 97 = some (.iload 9, 0, 0) := by decide +kernel
theorem f_88_99 : mj_fetch 88 99 = some (.ifCond .eq 45, 0, 0) := by decide +kernel
theorem f_88_102 : mj_fetch 88 102 = some (.aload_n 3, 0, 0) := by decide +kernel
theorem f_88_103 : mj_fetch 88 103 = some (.getfield 160, 9, 1) := by decide +kernel
theorem f_88_106 : mj_fetch 88 106 = some (.aload_n 3, 0, 0) := by decide +kernel
theorem f_88_107 : mj_fetch 88 107 = some (.getfield 163, 9, 2) := by decide +kernel
theorem f_88_110 : mj_fetch 88 110 = some (.iload 7, 0, 0) := by decide +kernel
theorem f_88_112 : mj_fetch 88 112 = some (.invokestatic 166, 109, 0) := by decide +kernel
theorem f_88_115 : mj_fetch 88 115 = some (.ifCond .eq 29, 0, 0) := by decide +kernel
theorem f_88_118 : mj_fetch 88 118 = some (.aload_n 0, 0, 0) := by decide +kernel
theorem f_88_119 : mj_fetch 88 119 = some (.getfield 30, 10, 3) := by decide +kernel
theorem f_88_122 : mj_fetch 88 122 = some (.aload_n 3, 0, 0) := by decide +kernel
theorem f_88_123 : mj_fetch 88 123 = some (.getfield 170, 9, 0) := by decide +kernel
theorem f_88_126 : mj_fetch 88 126 = some (.iload 7, 0, 0) := by decide +kernel
theorem f_88_128 : mj_fetch 88 128 = some (.invokevirtual 174, 1, 0) := by decide +kernel
theorem f_88_131 : mj_fetch 88 131 = some (.iload 4, 0, 0) := by decide +kernel
theorem f_88_133 : mj_fetch 88 133 = some (.if_icmp .eq 11, 0, 0) := by decide +kernel
theorem f_88_136 : mj_fetch 88 136 = some (.iload 7, 0, 0) := by decide +kernel
theorem f_88_138 : mj_fetch 88 138 = some (.istore 5, 0, 0) := by decide +kernel
theorem f_88_140 : mj_fetch 88 140 = some (.iload 8, 0, 0) := by decide +kernel
theorem f_88_142 : mj_fetch 88 142 = some (.istore 6, 0, 0) := by decide +kernel
theorem f_88_144 : mj_fetch 88 144 = some (.iinc 7 1, 0, 0) := by decide +kernel
theorem f_88_147 : mj_fetch 88 147 = some (.goto (-87), 0, 0) := by decide +kernel
theorem f_88_150 : mj_fetch 88 150 = some (.iload 5, 0, 0) := by decide +kernel
theorem f_88_152 : mj_fetch 88 152 = some (.ireturn, 0, 0) := by decide +kernel
theorem f_89_0 : mj_fetch 89 0 = some (.aload_n 0, 0, 0) := by decide +kernel
theorem f_89_1 : mj_fetch 89 1 = some (.iload_n 1, 0, 0) := by decide +kernel
theorem f_89_2 : mj_fetch 89 2 = some (.invokevirtual 101, 100, 0) := by decide +kernel
theorem f_89_5 : mj_fetch 89 5 = some (.astore_n 3, 0, 0) := by decide +kernel
theorem f_89_6 : mj_fetch 89 6 = some (.aload_n 3, 0, 0) := by decide +kernel
theorem f_89_7 : mj_fetch 89 7 = some (.ifnull 10, 0, 0) := by decide +kernel
theorem f_89_10 : mj_fetch 89 10 = some (.iload_n 2, 0, 0) := by decide +kernel
theorem f_89_11 : mj_fetch 89 11 = some (.invokestatic 143, 107, 0) := by decide +kernel
theorem f_89_14 : mj_fetch 89 14 = some (.ifCond .ne 5, 0, 0) := by decide +kernel
theorem f_89_17 : mj_fetch 89 17 = some (.iconst (-1), 0, 0) := by decide +kernel
theorem f_89_18 : mj_fetch 89 18 = some (.ireturn, 0, 0) := by decide +kernel
theorem f_89_19 : mj_fetch 89 19 = some (.iconst 0, 0, 0) := by decide +kernel
theorem f_89_20 : mj_fetch 89 20 = some (.istore 4, 0, 0) := by decide +kernel
theorem f_89_22 : mj_fetch 89 22 = some (.iconst 0, 0, 0) := by decide +kernel
theorem f_89_23 : mj_fetch 89 23 = some (.istore 5, 0, 0) := by decide +kernel
theorem f_89_25 : mj_fetch 89 25 = some (.iload 5, 0, 0) := by decide +kernel
theorem f_89_27 : mj_fetch 89 27 = some (.iconst 3, 0, 0) := by decide +kernel
theorem f_89_28 : mj_fetch 89 28 = some (.if_icmp .ge 89, 0, 0) := by decide +kernel
theorem f_89_31 : mj_fetch 89 31 = some (.iload_n 2, 0, 0) := by decide +kernel
theorem f_89_32 : mj_fetch 89 32 = some (.iload 5, 0, 0) := by decide +kernel
theorem f_89_34 : mj_fetch 89 34 = some (.invokestatic 149, 108, 0) := by decide +kernel
theorem f_89_37 : mj_fetch 89 37 = some (.istore 6, 0, 0) := by decide +kernel
theorem f_89_39 : mj_fetch 89 39 = some (.iload 6, 0, 0) := by decide +kernel
theorem f_89_41 : mj_fetch 89 41 = some (.ifCond .le 33, 0, 0) := by decide +kernel
theorem f_89_44 : mj_fetch 89 44 = some (.aload_n 0, 0, 0) := by decide +kernel
theorem f_89_45 : mj_fetch 89 45 = some (.getfield 30, 10, 3) := by decide +kernel
theorem f_89_48 : mj_fetch 89 48 = some (.aload_n 3, 0, 0) := by decide +kernel
theorem f_89_49 : mj_fetch 89 49 = some (.iload_n 2, 0, 0) := by decide +kernel
theorem f_89_50 : mj_fetch 89 50 = some (.getstatic 114, 2, 0) := by decide +kernel
theorem f_89_53 : mj_fetch 89 53 = some (.iload 5, 0, 0) := by decide +kernel
theorem f_89_55 : mj_fetch 89 55 = some (.iaload, 0, 0) := by decide +kernel
theorem f_89_56 : mj_fetch 89 56 = some (.isub, 0, 0) := by decide +kernel
theorem f_89_57 : mj_fetch 89 57 = some (.invokevirtual 174, 1, 0) := by decide +kernel
theorem f_89_60 : mj_fetch 89 60 = some (.ifCond .eq 14, 0, 0) := by decide +kernel
theorem f_89_63 : mj_fetch 89 63 = some (.iload 4, 0, 0) := by decide +kernel
theorem f_89_65 : mj_fetch 89 65 = some (.iconst 1, 0, 0) := by decide +kernel
theorem f_89_66 : mj_fetch 89 66 = some (.iconst 2, 0, 0) := by decide +kernel
theorem f_89_67 : mj_fetch 89 67 = some (.iload 5, 0, 0) := by decide +kernel
theorem f_89_69 : mj_fetch 89 69 = some (.imul, 0, 0) := by decide +kernel
theorem f_89_70 : mj_fetch 89 70 = some (.ishl, 0, 0) := by decide +kernel
theorem f_89_71 : mj_fetch 89 71 = some (.ior, 0, 0) := by decide +kernel
theorem f_89_72 : mj_fetch 89 72 = some (.istore 4, 0, 0) := by decide +kernel
theorem f_89_74 : mj_fetch 89 74 = some (.iload 6, 0, 0) := by decide +kernel
theorem f_89_76 : mj_fetch 89 76 = some (.bipush 8, 0, 0) := by decide +kernel
theorem f_89_78 : mj_fetch 89 78 = some (.if_icmp .ge 33, 0, 0) := by decide +kernel
theorem f_89_81 : mj_fetch 89 81 = some (.aload_n 0, 0, 0) := by decide +kernel
theorem f_89_82 : mj_fetch 89 82 = some (.getfield 30, 10, 3) := by decide +kernel
theorem f_89_85 : mj_fetch 89 85 = some (.aload_n 3, 0, 0) := by decide +kernel
theorem f_89_86 : mj_fetch 89 86 = some (.iload_n 2, 0, 0) := by decide +kernel
theorem f_89_87 : mj_fetch 89 87 = some (.getstatic 114, 2, 0) := by decide +kernel
theorem f_89_90 : mj_fetch 89 90 = some (.iload 5, 0, 0) := by decide +kernel
theorem f_89_92 : mj_fetch 89 92 = some (.iaload, 0, 0) := by decide +kernel
theorem f_89_93 : mj_fetch 89 93 = some (.iadd, 0, 0) := by decide +kernel
theorem f_89_94 : mj_fetch 89 94 = some (.invokevirtual 174, 1, 0) := by decide +kernel
theorem f_89_97 : mj_fetch 89 97 = some (.ifCond .eq 14, 0, 0) := by decide +kernel
theorem f_89_100 : mj_fetch 89 100 = some (.iload 4, 0, 0) := by decide +kernel
theorem f_89_102 : mj_fetch 89 102 = some (.iconst 2, 0, 0) := by decide +kernel
theorem f_89_103 : mj_fetch 89 103 = some (.iconst 2, 0, 0) := by decide +kernel
theorem f_89_104 : mj_fetch 89 104 = some (.iload 5, 0, 0) := by decide +kernel
theorem f_89_106 : mj_fetch 89 106 = some (.imul, 0, 0) := by decide +kernel
theorem f_89_107 : mj_fetch 89 107 = some (.ishl, 0, 0) := by decide +kernel
theorem f_89_108 : mj_fetch 89 108 = some (.ior, 0, 0) := by decide +kernel
theorem f_89_109 : mj_fetch 89 109 = some (.istore 4, 0, 0) := by decide +kernel
theorem f_89_111 : mj_fetch 89 111 = some (.iinc 5 1, 0, 0) := by decide +kernel
theorem f_89_114 : mj_fetch 89 114 = some (.goto (-89), 0, 0) := by decide +kernel
theorem f_89_117 : mj_fetch 89 117 = some (.iload 4, 0, 0) := by decide +kernel
theorem f_89_119 : mj_fetch 89 119 = some (.ireturn, 0, 0) := by decide +kernel
theorem f_90_0 : mj_fetch 90 0 = some (.aload_n 0, 0, 0) := by decide +kernel
theorem f_90_1 : mj_fetch 90 1 = some (.iload_n 1, 0, 0) := by decide +kernel
theorem f_90_2 : mj_fetch 90 2 = some (.invokevirtual 101, 100, 0) := by decide +kernel
theorem f_90_5 : mj_fetch 90 5 = some (.astore_n 3, 0, 0) := by decide +kernel
theorem f_90_6 : mj_fetch 90 6 = some (.aload_n 3, 0, 0) := by decide +kernel
theorem f_90_7 : mj_fetch 90 7 = some (.ifnull 10, 0, 0) := by decide +kernel
theorem f_90_10 : mj_fetch 90 10 = some (.iload_n 2, 0, 0) := by decide +kernel
theorem f_90_11 : mj_fetch 90 11 = some (.invokestatic 143, 107, 0) := by decide +kernel
theorem f_90_14 : mj_fetch 90 14 = some (.ifCond .ne 5, 0, 0) := by decide +kernel
theorem f_90_17 : mj_fetch 90 17 = some (.iconst (-1), 0, 0) := by decide +kernel
theorem f_90_18 : mj_fetch 90 18 = some (.ireturn, 0, 0) := by decide +kernel
theorem f_90_19 : mj_fetch 90 19 = some (.aload_n 0, 0, 0) := by decide +kernel
theorem f_90_20 : mj_fetch 90 20 = some (.getfield 51, 10, 6) := by decide +kernel
theorem f_90_23 : mj_fetch 90 23 = some (.aload_n 3, 0, 0) := by decide +kernel
theorem f_90_24 : mj_fetch 90 24 = some (.iload_n 2, 0, 0) := by decide +kernel
theorem f_90_25 : mj_fetch 90 25 = some (.aload_n 0, 0, 0) := by decide +kernel
theorem f_90_26 : mj_fetch 90 26 = some (.getfield 62, 10, 9) := by decide +kernel
theorem f_90_29 : mj_fetch 90 29 = some (.invokevirtual 228, 12, 0) := by decide +kernel
theorem f_90_32 : mj_fetch 90 32 = some (.ireturn, 0, 0) := by decide +kernel
theorem f_91_0 : mj_fetch 91 0 = some (.aload_n 0, 0, 0) := by decide +kernel
theorem f_91_1 : mj_fetch 91 1 = some (.getfield 51, 10, 6) := by decide +kernel
theorem f_91_4 : mj_fetch 91 4 = some (.iload_n 1, 0, 0) := by decide +kernel
theorem f_91_5 : mj_fetch 91 5 = some (.iload_n 2, 0, 0) := by decide +kernel
theorem f_91_6 : mj_fetch 91 6 = some (.aload_n 0, 0, 0) := by decide +kernel
theorem f_91_7 : mj_fetch 91 7 = some (.getfield 62, 10, 9) := by decide +kernel
theorem f_91_10 : mj_fetch 91 10 = some (.invokevirtual 232, 14, 0) := by decide +kernel
theorem f_91_13 : mj_fetch 91 13 = some (.ireturn, 0, 0) := by decide +kernel
theorem f_92_0 : mj_fetch 92 0 = some (.aload_n 0, 0, 0) := by decide +kernel
theorem f_92_1 : mj_fetch 92 1 = some (.getfield 51, 10, 6) := by decide +kernel
theorem f_92_4 : mj_fetch 92 4 = some (.iload_n 1, 0, 0) := by decide +kernel
theorem f_92_5 : mj_fetch 92 5 = some (.invokevirtual 236, 13, 0) := by decide +kernel
theorem f_92_8 : mj_fetch 92 8 = some (.astore_n 3, 0, 0) := by decide +kernel
theorem f_92_9 : mj_fetch 92 9 = some (.aload_n 3, 0, 0) := by decide +kernel
theorem f_92_10 : mj_fetch 92 10 = some (.ifnull 19, 0, 0) := by decide +kernel
theorem f_92_13 : mj_fetch 92 13 = some (.aload_n 0, 0, 0) := by decide +kernel
theorem f_92_14 : mj_fetch 92 14 = some (.iload_n 2, 0, 0) := by decide +kernel
theorem f_92_15 : mj_fetch 92 15 = some (.invokevirtual 240, 102, 0) := by decide +kernel
theorem f_92_18 : mj_fetch 92 18 = some (.ifCond .eq 11, 0, 0) := by decide +kernel
theorem f_92_21 : mj_fetch 92 21 = some (.aload_n 3, 0, 0) := by decide +kernel
theorem f_92_22 : mj_fetch 92 22 = some (.getfield 243, 4, 2) := by decide +kernel
theorem f_92_25 : mj_fetch 92 25 = some (.iload_n 2, 0, 0) := by decide +kernel
theorem f_92_26 : mj_fetch 92 26 = some (.if_icmp .le 5, 0, 0) := by decide +kernel
theorem f_92_29 : mj_fetch 92 29 = some (.iconst (-1), 0, 0) := by decide +kernel
theorem f_92_30 : mj_fetch 92 30 = some (.ireturn, 0, 0) := by decide +kernel
theorem f_92_31 : mj_fetch 92 31 = some (.aload_n 0, 0, 0) := by decide +kernel
theorem f_92_32 : mj_fetch 92 32 = some (.getfield 51, 10, 6) := by decide +kernel
theorem f_92_35 : mj_fetch 92 35 = some (.iload_n 2, 0, 0) := by decide +kernel
theorem f_92_36 : mj_fetch 92 36 = some (.invokevirtual 248, 15, 0) := by decide +kernel
theorem f_92_39 : mj_fetch 92 39 = some (.aload_n 0, 0, 0) := by decide +kernel
theorem f_92_40 : mj_fetch 92 40 = some (.getfield 51, 10, 6) := by decide +kernel
theorem f_92_43 : mj_fetch 92 43 = some (.getfield 251, 1, 1) := by decide +kernel
theorem f_92_46 : mj_fetch 92 46 = some (.iload_n 1, 0, 0) := by decide +kernel
theorem f_92_47 : mj_fetch 92 47 = some (.iaload, 0, 0) := by decide +kernel
theorem f_92_48 : mj_fetch 92 48 = some (.ireturn, 0, 0) := by decide +kernel
theorem f_93_0 : mj_fetch 93 0 = some (.aload_n 0, 0, 0) := by decide +kernel
theorem f_93_1 : mj_fetch 93 1 = some (.iload_n 1, 0, 0) := by decide +kernel
theorem f_93_2 : mj_fetch 93 2 = some (.invokevirtual 240, 102, 0) := by decide +kernel
theorem f_93_5 : mj_fetch 93 5 = some (.ifCond .ne 5, 0, 0) := by decide +kernel
theorem f_93_8 : mj_fetch 93 8 = some (.iconst (-1), 0, 0) := by decide +kernel
theorem f_93_9 : mj_fetch 93 9 = some (.ireturn, 0, 0) := by decide +kernel
theorem f_93_10 : mj_fetch 93 10 = some (.aload_n 0, 0, 0) := by decide +kernel
theorem f_93_11 : mj_fetch 93 11 = some (.getfield 51, 10, 6) := by decide +kernel
theorem f_93_14 : mj_fetch 93 14 = some (.iload_n 1, 0, 0) := by decide +kernel
theorem f_93_15 : mj_fetch 93 15 = some (.invokevirtual 248, 15, 0) := by decide +kernel
theorem f_93_18 : mj_fetch 93 18 = some (.aload_n 0, 0, 0) := by decide +kernel
theorem f_93_19 : mj_fetch 93 19 = some (.getfield 51, 10, 6) := by decide +kernel
theorem f_93_22 : mj_fetch 93 22 = some (.aload_n 0, 0, 0) := by decide +kernel
theorem f_93_23 : mj_fetch 93 23 = some (.getfield 30, 10, 3) := by decide +kernel
theorem f_93_26 : mj_fetch 93 26 = some (.invokevirtual 254, 16, 0) := by decide +kernel
theorem f_93_29 : mj_fetch 93 29 = some (.ireturn, 0, 0) := by decide +kernel
theorem f_94_0 : mj_fetch 94 0 = some (.aload_n 0, 0, 0) := by decide +kernel
theorem f_94_1 : mj_fetch 94 1 = some (.iload_n 1, 0, 0) := by decide +kernel
theorem f_94_2 : mj_fetch 94 2 = some (.invokevirtual 240, 102, 0) := by decide +kernel
theorem f_94_5 : mj_fetch 94 5 = some (.ifCond .ne 5, 0, 0) := by decide +kernel
theorem f_94_8 : mj_fetch 94 8 = some (.iconst (-1), 0, 0) := by decide +kernel
theorem f_94_9 : mj_fetch 94 9 = some (.ireturn, 0, 0) := by decide +kernel
theorem f_94_10 : mj_fetch 94 10 = some (.aload_n 0, 0, 0) := by decide +kernel
theorem f_94_11 : mj_fetch 94 11 = some (.getfield 51, 10, 6) := by decide +kernel
theorem f_94_14 : mj_fetch 94 14 = some (.iload_n 1, 0, 0) := by decide +kernel
theorem f_94_15 : mj_fetch 94 15 = some (.invokevirtual 248, 15, 0) := by decide +kernel
theorem f_94_18 : mj_fetch 94 18 = some (.aload_n 0, 0, 0) := by decide +kernel
theorem f_94_19 : mj_fetch 94 19 = some (.getfield 51, 10, 6) := by decide +kernel
theorem f_94_22 : mj_fetch 94 22 = some (.aload_n 0, 0, 0) := by decide +kernel
theorem f_94_23 : mj_fetch 94 23 = some (.getfield 66, 10, 10) := by decide +kernel
theorem f_94_26 : mj_fetch 94 26 = some (.invokevirtual 258, 17, 0) := by decide +kernel
theorem f_94_29 : mj_fetch 94 29 = some (.ireturn, 0, 0) := by decide +kernel
theorem f_95_0 : mj_fetch 95 0 = some (.aload_n 0, 0, 0) := by decide +kernel
theorem f_95_1 : mj_fetch 95 1 = some (.iload_n 1, 0, 0) := by decide +kernel
theorem f_95_2 : mj_fetch 95 2 = some (.invokevirtual 101, 100, 0) := by decide +kernel
theorem f_95_5 : mj_fetch 95 5 = some (.ifnull 10, 0, 0) := by decide +kernel
theorem f_95_8 : mj_fetch 95 8 = some (.iload_n 2, 0, 0) := by decide +kernel
theorem f_95_9 : mj_fetch 95 9 = some (.invokestatic 143, 107, 0) := by decide +kernel
theorem f_95_12 : mj_fetch 95 12 = some (.ifCond .ne 5, 0, 0) := by decide +kernel
theorem f_95_15 : mj_fetch 95 15 = some (.iconst (-1), 0, 0) := by decide +kernel
theorem f_95_16 : mj_fetch 95 16 = some (.ireturn, 0, 0) := by decide +kernel
theorem f_95_17 : mj_fetch 95 17 = some (.aload_n 0, 0, 0) := by decide +kernel
theorem f_95_18 : mj_fetch 95 18 = some (.getfield 58, 10, 7) := by decide +kernel
theorem f_95_21 : mj_fetch 95 21 = some (.iload_n 1, 0, 0) := by decide +kernel
theorem f_95_22 : mj_fetch 95 22 = some (.iload_n 2, 0, 0) := by decide +kernel
theorem f_95_23 : mj_fetch 95 23 = some (.invokevirtual 262, 20, 0) := by decide +kernel
theorem f_95_26 : mj_fetch 95 26 = some (.ireturn, 0, 0) := by decide +kernel
theorem f_96_0 : mj_fetch 96 0 = some (.aload_n 0, 0, 0) := by decide +kernel
theorem f_96_1 : mj_fetch 96 1 = some (.getfield 58, 10, 7) := by decide +kernel
theorem f_96_4 : mj_fetch 96 4 = some (.invokevirtual 264, 21, 0) := by decide +kernel
theorem f_96_7 : mj_fetch 96 7 = some (.return_, 0, 0) := by decide +kernel
theorem f_97_0 : mj_fetch 97 0 = some (.aload_n 0, 0, 0) := by decide +kernel
theorem f_97_1 : mj_fetch 97 1 = some (.getfield 58, 10, 7) := by decide +kernel
theorem f_97_4 : mj_fetch 97 4 = some (.getfield 267, 2, 5) := by decide +kernel
theorem f_97_7 : mj_fetch 97 7 = some (.ifCond .eq 19, 0, 0) := by decide +kernel
theorem f_97_10 : mj_fetch 97 10 = some (.iload_n 1, 0, 0) := by decide +kernel
theorem f_97_11 : mj_fetch 97 11 = some (.iconst (-1), 0, 0) := by decide +kernel
theorem f_97_12 : mj_fetch 97 12 = some (.if_icmp .lt 14, 0, 0) := by decide +kernel
theorem f_97_15 : mj_fetch 97 15 = some (.iload_n 1, 0, 0) := by decide +kernel
theorem f_97_16 : mj_fetch 97 16 = some (.aload_n 0, 0, 0) := by decide +kernel
theorem f_97_17 : mj_fetch 97 17 = some (.getfield 58, 10, 7) := by decide +kernel
theorem f_97_20 : mj_fetch 97 20 = some (.getfield 267, 2, 5) := by decide +kernel
theorem f_97_23 : mj_fetch 97 23 = some (.if_icmp .lt 5, 0, 0) := by decide +kernel
theorem f_97_26 : mj_fetch 97 26 = some (.iconst (-1), 0, 0) := by decide +kernel
theorem f_97_27 : mj_fetch 97 27 = some (.ireturn, 0, 0) := by decide +kernel
theorem f_97_28 : mj_fetch 97 28 = some (.aload_n 0, 0, 0) := by decide +kernel
theorem f_97_29 : mj_fetch 97 29 = some (.getfield 58, 10, 7) := by decide +kernel
theorem f_97_32 : mj_fetch 97 32 = some (.invokevirtual 268, 22, 0) := by decide +kernel
theorem f_97_35 : mj_fetch 97 35 = some (.iload_n 1, 0, 0) := by decide +kernel
theorem f_97_36 : mj_fetch 97 36 = some (.iconst (-1), 0, 0) := by decide +kernel
theorem f_97_37 : mj_fetch 97 37 = some (.if_icmp .ne 13, 0, 0) := by decide +kernel
theorem f_97_40 : mj_fetch 97 40 = some (.aload_n 0, 0, 0) := by decide +kernel
theorem f_97_41 : mj_fetch 97 41 = some (.getfield 58, 10, 7) := by decide +kernel
theorem f_97_44 : mj_fetch 97 44 = some (.getfield 271, 2, 6) := by decide +kernel
theorem f_97_47 : mj_fetch 97 47 = some (.goto 12, 0, 0) := by decide +kernel
theorem f_97_50 : mj_fetch 97 50 = some (.aload_n 0, 0, 0) := by decide +kernel
theorem f_97_51 : mj_fetch 97 51 = some (.getfield 58, 10, 7) := by decide +kernel
theorem f_97_54 : mj_fetch 97 54 = some (.getfield 274, 2, 2) := by decide +kernel
theorem f_97_57 : mj_fetch 97 57 = some (.iload_n 1, 0, 0) := by decide +kernel
theorem f_97_58 : mj_fetch 97 58 = some (.iaload, 0, 0) := by decide +kernel
theorem f_97_59 : mj_fetch 97 59 = some (.ireturn, 0, 0) := by decide +kernel
theorem f_98_0 : mj_fetch 98 0 = some (.iload_n 1, 0, 0) := by decide +kernel
theorem f_98_1 : mj_fetch 98 1 = some (.tableswitch 87 0 6 #[43, 48, 53, 58, 63, 71, 79], 0, 0) := by decide +kernel
theorem f_98_44 : mj_fetch 98 44 = some (.aload_n 0, 0, 0) := by decide +kernel
theorem f_98_45 : mj_fetch 98 45 = some (.getfield 62, 10, 9) := by decide +kernel
theorem f_98_48 : mj_fetch 98 48 = some (.ireturn, 0, 0) := by decide +kernel
theorem f_98_49 : mj_fetch 98 49 = some (.aload_n 0, 0, 0) := by decide +kernel
theorem f_98_50 : mj_fetch 98 50 = some (.getfield 66, 10, 10) := by decide +kernel
theorem f_98_53 : mj_fetch 98 53 = some (.ireturn, 0, 0) := by decide +kernel
theorem f_98_54 : mj_fetch 98 54 = some (.aload_n 0, 0, 0) := by decide +kernel
theorem f_98_55 : mj_fetch 98 55 = some (.getfield 91, 10, 11) := by decide +kernel
theorem f_98_58 : mj_fetch 98 58 = some (.ireturn, 0, 0) := by decide +kernel
theorem f_98_59 : mj_fetch 98 59 = some (.aload_n 0, 0, 0) := by decide +kernel
theorem f_98_60 : mj_fetch 98 60 = some (.getfield 146, 10, 12) := by decide +kernel
theorem f_98_63 : mj_fetch 98 63 = some (.ireturn, 0, 0) := by decide +kernel
theorem f_98_64 : mj_fetch 98 64 = some (.aload_n 0, 0, 0) := by decide +kernel
theorem f_98_65 : mj_fetch 98 65 = some (.getfield 44, 10, 5) := by decide +kernel
theorem f_98_68 : mj_fetch 98 68 = some (.getfield 185, 7, 1) := by decide +kernel
theorem f_98_71 : mj_fetch 98 71 = some (.ireturn, 0, 0) := by decide +kernel
theorem f_98_72 : mj_fetch 98 72 = some (.aload_n 0, 0, 0) := by decide +kernel
theorem f_98_73 : mj_fetch 98 73 = some (.getfield 51, 10, 6) := by decide +kernel
theorem f_98_76 : mj_fetch 98 76 = some (.getfield 277, 1, 5) := by decide +kernel
theorem f_98_79 : mj_fetch 98 79 = some (.ireturn, 0, 0) := by decide +kernel
theorem f_98_80 : mj_fetch 98 80 = some (.aload_n 0, 0, 0) := by decide +kernel
theorem f_98_81 : mj_fetch 98 81 = some (.getfield 58, 10, 7) := by decide +kernel
theorem f_98_84 : mj_fetch 98 84 = some (.getfield 267, 2, 5) := by decide +kernel
theorem f_98_87 : mj_fetch 98 87 = some (.ireturn, 0, 0) := by decide +kernel
theorem f_98_88 : mj_fetch 98 88 = some (.iconst (-1), 0, 0) := by decide +kernel
theorem f_98_89 : mj_fetch 98 89 = some (.ireturn, 0, 0) := by decide +kernel
theorem f_99_0 : mj_fetch 99 0 = some (.iload_n 1, 0, 0) := by decide +kernel
theorem f_99_1 : mj_fetch 99 1 = some (.ifCond .lt 20, 0, 0) := by decide +kernel
theorem f_99_4 : mj_fetch 99 4 = some (.iload_n 1, 0, 0) := by decide +kernel
theorem f_99_5 : mj_fetch 99 5 = some (.aload_n 0, 0, 0) := by decide +kernel
theorem f_99_6 : mj_fetch 99 6 = some (.getfield 66, 10, 10) := by decide +kernel
theorem f_99_9 : mj_fetch 99 9 = some (.if_icmp .ge 12, 0, 0) := by decide +kernel
theorem f_99_12 : mj_fetch 99 12 = some (.aload_n 0, 0, 0) := by decide +kernel
theorem f_99_13 : mj_fetch 99 13 = some (.getfield 11, 10, 0) := by decide +kernel
theorem f_99_16 : mj_fetch 99 16 = some (.iload_n 1, 0, 0) := by decide +kernel
theorem f_99_17 : mj_fetch 99 17 = some (.aaload, 0, 0) := by decide +kernel
theorem f_99_18 : mj_fetch 99 18 = some (.goto 4, 0, 0) := by decide +kernel
theorem f_99_21 : mj_fetch 99 21 = some (.aconst_null, 0, 0) := by decide +kernel
theorem f_99_22 : mj_fetch 99 22 = some (.areturn, 0, 0) := by decide +kernel
theorem f_100_0 : mj_fetch 100 0 = some (.iload_n 1, 0, 0) := by decide +kernel
theorem f_100_1 : mj_fetch 100 1 = some (.ifCond .lt 20, 0, 0) := by decide +kernel
theorem f_100_4 : mj_fetch 100 4 = some (.iload_n 1, 0, 0) := by decide +kernel
theorem f_100_5 : mj_fetch 100 5 = some (.aload_n 0, 0, 0) := by decide +kernel
theorem f_100_6 : mj_fetch 100 6 = some (.getfield 91, 10, 11) := by decide +kernel
theorem f_100_9 : mj_fetch 100 9 = some (.if_icmp .ge 12, 0, 0) := by decide +kernel
theorem f_100_12 : mj_fetch 100 12 = some (.aload_n 0, 0, 0) := by decide +kernel
theorem f_100_13 : mj_fetch 100 13 = some (.getfield 17, 10, 1) := by decide +kernel
theorem f_100_16 : mj_fetch 100 16 = some (.iload_n 1, 0, 0) := by decide +kernel
theorem f_100_17 : mj_fetch 100 17 = some (.aaload, 0, 0) := by decide +kernel
theorem f_100_18 : mj_fetch 100 18 = some (.goto 4, 0, 0) := by decide +kernel
theorem f_100_21 : mj_fetch 100 21 = some (.aconst_null, 0, 0) := by decide +kernel
theorem f_100_22 : mj_fetch 100 22 = some (.areturn, 0, 0) := by decide +kernel
theorem f_101_0 : mj_fetch 101 0 = some (.iload_n 1, 0, 0) := by decide +kernel
theorem f_101_1 : mj_fetch 101 1 = some (.ifCond .lt 20, 0, 0) := by decide +kernel
theorem f_101_4 : mj_fetch 101 4 = some (.iload_n 1, 0, 0) := by decide +kernel
theorem f_101_5 : mj_fetch 101 5 = some (.aload_n 0, 0, 0) := by decide +kernel
theorem f_101_6 : mj_fetch 101 6 = some (.getfield 146, 10, 12) := by decide +kernel
theorem f_101_9 : mj_fetch 101 9 = some (.if_icmp .ge 12, 0, 0) := by decide +kernel
theorem f_101_12 : mj_fetch 101 12 = some (.aload_n 0, 0, 0) := by decide +kernel
theorem f_101_13 : mj_fetch 101 13 = some (.getfield 23, 10, 2) := by decide +kernel
theorem f_101_16 : mj_fetch 101 16 = some (.iload_n 1, 0, 0) := by decide +kernel
theorem f_101_17 : mj_fetch 101 17 = some (.aaload, 0, 0) := by decide +kernel
theorem f_101_18 : mj_fetch 101 18 = some (.goto 4, 0, 0) := by decide +kernel
theorem f_101_21 : mj_fetch 101 21 = some (.aconst_null, 0, 0) := by decide +kernel
theorem f_101_22 : mj_fetch 101 22 = some (.areturn, 0, 0) := by decide +kernel
theorem f_102_0 : mj_fetch 102 0 = some (.iload_n 1, 0, 0) := by decide +kernel
theorem f_102_1 : mj_fetch 102 1 = some (.ifCond .lt 15, 0, 0) := by decide +kernel
theorem f_102_4 : mj_fetch 102 4 = some (.iload_n 1, 0, 0) := by decide +kernel
theorem f_102_5 : mj_fetch 102 5 = some (.aload_n 0, 0, 0) := by decide +kernel
theorem f_102_6 : mj_fetch 102 6 = some (.getfield 62, 10, 9) := by decide +kernel
theorem f_102_9 : mj_fetch 102 9 = some (.if_icmp .gt 7, 0, 0) := by decide +kernel
theorem f_102_12 : mj_fetch 102 12 = some (.iconst 1, 0, 0) := by decide +kernel
theorem f_102_13 : mj_fetch 102 13 = some (.goto 4, 0, 0) := by decide +kernel
theorem f_102_16 : mj_fetch 102 16 = some (.iconst 0, 0, 0) := by decide +kernel
theorem f_102_17 : mj_fetch 102 17 = some (.ireturn, 0, 0) := by decide +kernel
theorem f_103_0 : mj_fetch 103 0 = some (.aload_n 0, 0, 0) := by decide +kernel
theorem f_103_1 : mj_fetch 103 1 = some (.iload_n 1, 0, 0) := by decide +kernel
theorem f_103_2 : mj_fetch 103 2 = some (.invokevirtual 101, 100, 0) := by decide +kernel
theorem f_103_5 : mj_fetch 103 5 = some (.astore_n 3, 0, 0) := by decide +kernel
theorem f_103_6 : mj_fetch 103 6 = some (.aload_n 3, 0, 0) := by decide +kernel
theorem f_103_7 : mj_fetch 103 7 = some (.ifnull 10, 0, 0) := by decide +kernel
theorem f_103_10 : mj_fetch 103 10 = some (.iload_n 2, 0, 0) := by decide +kernel
theorem f_103_11 : mj_fetch 103 11 = some (.invokestatic 143, 107, 0) := by decide +kernel
theorem f_103_14 : mj_fetch 103 14 = some (.ifCond .ne 5, 0, 0) := by decide +kernel
theorem f_103_17 : mj_fetch 103 17 = some (.iconst 0, 0, 0) := by decide +kernel
theorem f_103_18 : mj_fetch 103 18 = some (.ireturn, 0, 0) := by decide +kernel
theorem f_103_19 : mj_fetch 103 19 = some (.aload_n 0, 0, 0) := by decide +kernel
theorem f_103_20 : mj_fetch 103 20 = some (.getfield 30, 10, 3) := by decide +kernel
theorem f_103_23 : mj_fetch 103 23 = some (.aload_n 3, 0, 0) := by decide +kernel
theorem f_103_24 : mj_fetch 103 24 = some (.iload_n 2, 0, 0) := by decide +kernel
theorem f_103_25 : mj_fetch 103 25 = some (.invokevirtual 280, 2, 0) := by decide +kernel
theorem f_103_28 : mj_fetch 103 28 = some (.iconst 1, 0, 0) := by decide +kernel
theorem f_103_29 : mj_fetch 103 29 = some (.ireturn, 0, 0) := by decide +kernel
theorem f_104_0 : mj_fetch 104 0 = some (.aload_n 1, 0, 0) := by decide +kernel
theorem f_104_1 : mj_fetch 104 1 = some (.getfield 284, 9, 3) := by decide +kernel
theorem f_104_4 : mj_fetch 104 4 = some (.astore_n 2, 0, 0) := by decide +kernel
theorem f_104_5 : mj_fetch 104 5 = some (.aload_n 2, 0, 0) := by decide +kernel
theorem f_104_6 : mj_fetch 104 6 = some (.ifnonnull 59, 0, 0) := by decide +kernel
theorem f_104_9 : mj_fetch 104 9 = some (.aload_n 0, 0, 0) := by decide +kernel
theorem f_104_10 : mj_fetch 104 10 = some (.getfield 287, 10, 8) := by decide +kernel
theorem f_104_13 : mj_fetch 104 13 = some (.ifnonnull 14, 0, 0) := by decide +kernel
theorem f_104_16 : mj_fetch 104 16 = some (.aload_n 0, 0, 0) := by decide +kernel
theorem f_104_17 : mj_fetch 104 17 = some (.new 291, 5, 0) := by decide +kernel
theorem f_104_20 : mj_fetch 104 20 = some (.dup, 0, 0) := by decide +kernel
theorem f_104_21 : mj_fetch 104 21 = some (.invokespecial 293, 37, 0) := by decide +kernel
theorem f_104_24 : mj_fetch 104 24 = some (.putfield 287, 10, 8) := by decide +kernel
theorem f_104_27 : mj_fetch 104 27 = some (.aload_n 0, 0, 0) := by decide +kernel
theorem f_104_28 : mj_fetch 104 28 = some (.getfield 287, 10, 8) := by decide +kernel
theorem f_104_31 : mj_fetch 104 31 = some (.aload_n 0, 0, 0) := by decide +kernel
theorem f_104_32 : mj_fetch 104 32 = some (.getfield 30, 10, 3) := by decide +kernel
theorem f_104_35 : mj_fetch 104 35 = some (.aload_n 1, 0, 0) := by decide +kernel
theorem f_104_36 : mj_fetch 104 36 = some (.invokevirtual 294, 38, 0) := by decide +kernel
theorem f_104_39 : mj_fetch 104 39 = some (.aload_n 0, 0, 0) := by decide +kernel
theorem f_104_40 : mj_fetch 104 40 = some (.getfield 287, 10, 8) := by decide +kernel
theorem f_104_43 : mj_fetch 104 43 = some (.aload_n 1, 0, 0) := by decide +kernel
theorem f_104_44 : mj_fetch 104 44 = some (.invokevirtual 298, 42, 0) := by decide +kernel
theorem f_104_47 : mj_fetch 104 47 = some (.aload_n 0, 0, 0) := by decide +kernel
theorem f_104_48 : mj_fetch 104 48 = some (.getfield 287, 10, 8) := by decide +kernel
theorem f_104_51 : mj_fetch 104 51 = some (.aload_n 0, 0, 0) := by decide +kernel
theorem f_104_52 : mj_fetch 104 52 = some (.getfield 37, 10, 4) := by decide +kernel
theorem f_104_55 : mj_fetch 104 55 = some (.aload_n 1, 0, 0) := by decide +kernel
theorem f_104_56 : mj_fetch 104 56 = some (.invokevirtual 302, 41, 0) := by decide +kernel
theorem f_104_59 : mj_fetch 104 59 = some (.astore_n 2, 0, 0) := by decide +kernel
theorem f_104_60 : mj_fetch 104 60 = some (.aload_n 1, 0, 0) := by decide +kernel
theorem f_104_61 : mj_fetch 104 61 = some (.aload_n 2, 0, 0) := by decide +kernel
theorem f_104_62 : mj_fetch 104 62 = some (.putfield 284, 9, 3) := by decide +kernel
theorem f_104_65 : mj_fetch 104 65 = some (.aload_n 2, 0, 0) := by decide +kernel
theorem f_104_66 : mj_fetch 104 66 = some (.areturn, 0, 0) := by decide +kernel
theorem f_105_0 : mj_fetch 105 0 = some (.iload_n 2, 0, 0) := by decide +kernel
theorem f_105_1 : mj_fetch 105 1 = some (.iconst 1, 0, 0) := by decide +kernel
theorem f_105_2 : mj_fetch 105 2 = some (.if_icmp .le 12, 0, 0) := by decide +kernel
theorem f_105_5 : mj_fetch 105 5 = some (.aload_n 0, 0, 0) := by decide +kernel
theorem f_105_6 : mj_fetch 105 6 = some (.getfield 37, 10, 4) := by decide +kernel
theorem f_105_9 : mj_fetch 105 9 = some (.iload_n 2, 0, 0) := by decide +kernel
theorem f_105_10 : mj_fetch 105 10 = some (.invokevirtual 306, 62, 0) := by decide +kernel
theorem f_105_13 : mj_fetch 105 13 = some (.ireturn, 0, 0) := by decide +kernel
theorem f_105_14 : mj_fetch 105 14 = some (.aload_n 0, 0, 0) := by decide +kernel
theorem f_105_15 : mj_fetch 105 15 = some (.getfield 37, 10, 4) := by decide +kernel
theorem f_105_18 : mj_fetch 105 18 = some (.getfield 309, 8, 3) := by decide +kernel
theorem f_105_21 : mj_fetch 105 21 = some (.istore_n 3, 0, 0) := by decide +kernel
theorem f_105_22 : mj_fetch 105 22 = some (.iload_n 3, 0, 0) := by decide +kernel
theorem f_105_23 : mj_fetch 105 23 = some (.aload_n 0, 0, 0) := by decide +kernel
theorem f_105_24 : mj_fetch 105 24 = some (.getfield 37, 10, 4) := by decide +kernel
theorem f_105_27 : mj_fetch 105 27 = some (.getfield 310, 8, 4) := by decide +kernel
theorem f_105_30 : mj_fetch 105 30 = some (.if_icmp .gt 53, 0, 0) := by decide +kernel
theorem f_105_33 : mj_fetch 105 33 = some (.aload_n 0, 0, 0) := by decide +kernel
theorem f_105_34 : mj_fetch 105 34 = some (.getfield 37, 10, 4) := by decide +kernel
theorem f_105_37 : mj_fetch 105 37 = some (.getfield 309, 8, 3) := by decide +kernel
theorem f_105_40 : mj_fetch 105 40 = some (.aload_n 0, 0, 0) := by decide +kernel
theorem f_105_41 : mj_fetch 105 41 = some (.getfield 37, 10, 4) := by decide +kernel
theorem f_105_44 : mj_fetch 105 44 = some (.getfield 310, 8, 4) := by decide +kernel
theorem f_105_47 : mj_fetch 105 47 = some (.iload_n 3, 0, 0) := by decide +kernel
theorem f_105_48 : mj_fetch 105 48 = some (.invokestatic 166, 109, 0) := by decide +kernel
theorem f_105_51 : mj_fetch 105 51 = some (.ifCond .eq 26, 0, 0) := by decide +kernel
theorem f_105_54 : mj_fetch 105 54 = some (.aload_n 0, 0, 0) := by decide +kernel
theorem f_105_55 : mj_fetch 105 55 = some (.getfield 30, 10, 3) := by decide +kernel
theorem f_105_58 : mj_fetch 105 58 = some (.aload_n 1, 0, 0) := by decide +kernel
theorem f_105_59 : mj_fetch 105 59 = some (.iload_n 3, 0, 0) := by decide +kernel
theorem f_105_60 : mj_fetch 105 60 = some (.invokevirtual 174, 1, 0) := by decide +kernel
theorem f_105_63 : mj_fetch 105 63 = some (.iload_n 2, 0, 0) := by decide +kernel
theorem f_105_64 : mj_fetch 105 64 = some (.ifCond .ne 7, 0, 0) := by decide +kernel
theorem f_105_67 : mj_fetch 105 67 = some (.iconst 1, 0, 0) := by decide +kernel
theorem f_105_68 : mj_fetch 105 68 = some (.goto 4, 0, 0) := by decide +kernel
theorem f_105_71 : mj_fetch 105 71 = some (.iconst 0, 0, 0) := by decide +kernel
theorem f_105_72 : mj_fetch 105 72 = some (.if_icmp .eq 5, 0, 0) := by decide +kernel
theorem f_105_75 : mj_fetch 105 75 = some (.iconst 0, 0, 0) := by decide +kernel
theorem f_105_76 : mj_fetch 105 76 = some (.ireturn, 0, 0) := by decide +kernel
theorem f_105_77 : mj_fetch 105 77 = some (.iinc 3 1, 0, 0) := by decide +kernel
theorem f_105_80 : mj_fetch 105 80 = some (.goto (-58), 0, 0) := by decide +kernel
theorem f_105_83 : mj_fetch 105 83 = some (.iconst 1, 0, 0) := by decide +kernel
theorem f_105_84 : mj_fetch 105 84 = some (.ireturn, 0, 0) := by decide +kernel
theorem f_106_0 : mj_fetch 106 0 = some (.iload_n 0, 0, 0) := by decide +kernel
theorem f_106_1 : mj_fetch 106 1 = some (.iconst 1, 0, 0) := by decide +kernel
theorem f_106_2 : mj_fetch 106 2 = some (.if_icmp .lt 13, 0, 0) := by decide +kernel
theorem f_106_5 : mj_fetch 106 5 = some (.iload_n 0, 0, 0) := by decide +kernel
theorem f_106_6 : mj_fetch 106 6 = some (.bipush 9, 0, 0) := by decide +kernel
theorem f_106_8 : mj_fetch 106 8 = some (.if_icmp .gt 7, 0, 0) := by decide +kernel
theorem f_106_11 : mj_fetch 106 11 = some (.iconst 1, 0, 0) := by decide +kernel
theorem f_106_12 : mj_fetch 106 12 = some (.goto 4, 0, 0) := by decide +kernel
theorem f_106_15 : mj_fetch 106 15 = some (.iconst 0, 0, 0) := by decide +kernel
theorem f_106_16 : mj_fetch 106 16 = some (.ireturn, 0, 0) := by decide +kernel
theorem f_107_0 : mj_fetch 107 0 = some (.iload_n 0, 0, 0) := by decide +kernel
theorem f_107_1 : mj_fetch 107 1 = some (.ifCond .lt 14, 0, 0) := by decide +kernel
theorem f_107_4 : mj_fetch 107 4 = some (.iload_n 0, 0, 0) := by decide +kernel
theorem f_107_5 : mj_fetch 107 5 = some (.sipush 729, 0, 0) := by decide +kernel
theorem f_107_8 : mj_fetch 107 8 = some (.if_icmp .ge 7, 0, 0) := by decide +kernel
theorem f_107_11 : mj_fetch 107 11 = some (.iconst 1, 0, 0) := by decide +kernel
theorem f_107_12 : mj_fetch 107 12 = some (.goto 4, 0, 0) := by decide +kernel
theorem f_107_15 : mj_fetch 107 15 = some (.iconst 0, 0, 0) := by decide +kernel
theorem f_107_16 : mj_fetch 107 16 = some (.ireturn, 0, 0) := by decide +kernel
theorem f_108_0 : mj_fetch 108 0 = some (.iload_n 0, 0, 0) := by decide +kernel
theorem f_108_1 : mj_fetch 108 1 = some (.getstatic 114, 2, 0) := by decide +kernel
theorem f_108_4 : mj_fetch 108 4 = some (.iload_n 1, 0, 0) := by decide +kernel
theorem f_108_5 : mj_fetch 108 5 = some (.iaload, 0, 0) := by decide +kernel
theorem f_108_6 : mj_fetch 108 6 = some (.idiv, 0, 0) := by decide +kernel
theorem f_108_7 : mj_fetch 108 7 = some (.bipush 9, 0, 0) := by decide +kernel
theorem f_108_9 : mj_fetch 108 9 = some (.irem, 0, 0) := by decide +kernel
theorem f_108_10 : mj_fetch 108 10 = some (.ireturn, 0, 0) := by decide +kernel
theorem f_109_0 : mj_fetch 109 0 = some (.iconst 0, 0, 0) := by decide +kernel
theorem f_109_1 : mj_fetch 109 1 = some (.istore_n 3, 0, 0) := by decide +kernel
theorem f_109_2 : mj_fetch 109 2 = some (.iload_n 3, 0, 0) := by decide +kernel
theorem f_109_3 : mj_fetch 109 3 = some (.iconst 3, 0, 0) := by decide +kernel
theorem f_109_4 : mj_fetch 109 4 = some (.if_icmp .ge 38, 0, 0) := by decide +kernel
theorem f_109_7 : mj_fetch 109 7 = some (.iload_n 2, 0, 0) := by decide +kernel
theorem f_109_8 : mj_fetch 109 8 = some (.iload_n 3, 0, 0) := by decide +kernel
theorem f_109_9 : mj_fetch 109 9 = some (.invokestatic 149, 108, 0) := by decide +kernel
theorem f_109_12 : mj_fetch 109 12 = some (.istore 4, 0, 0) := by decide +kernel
theorem f_109_14 : mj_fetch 109 14 = some (.iload 4, 0, 0) := by decide +kernel
theorem f_109_16 : mj_fetch 109 16 = some (.iload_n 0, 0, 0) := by decide +kernel
theorem f_109_17 : mj_fetch 109 17 = some (.iload_n 3, 0, 0) := by decide +kernel
theorem f_109_18 : mj_fetch 109 18 = some (.invokestatic 149, 108, 0) := by decide +kernel
theorem f_109_21 : mj_fetch 109 21 = some (.if_icmp .lt 13, 0, 0) := by decide +kernel
theorem f_109_24 : mj_fetch 109 24 = some (.iload 4, 0, 0) := by decide +kernel
theorem f_109_26 : mj_fetch 109 26 = some (.iload_n 1, 0, 0) := by decide +kernel
theorem f_109_27 : mj_fetch 109 27 = some (.iload_n 3, 0, 0) := by decide +kernel
theorem f_109_28 : mj_fetch 109 28 = some (.invokestatic 149, 108, 0) := by decide +kernel
theorem f_109_31 : mj_fetch 109 31 = some (.if_icmp .le 5, 0, 0) := by decide +kernel
theorem f_109_34 : mj_fetch 109 34 = some (.iconst 0, 0, 0) := by decide +kernel
theorem f_109_35 : mj_fetch 109 35 = some (.ireturn, 0, 0) := by decide +kernel
theorem f_109_36 : mj_fetch 109 36 = some (.iinc 3 1, 0, 0) := by decide +kernel
theorem f_109_39 : mj_fetch 109 39 = some (.goto (-37), 0, 0) := by decide +kernel
theorem f_109_42 : mj_fetch 109 42 = some (.iconst 1, 0, 0) := by decide +kernel
theorem f_109_43 : mj_fetch 109 43 = some (.ireturn, 0, 0) := by decide +kernel
theorem f_110_0 : mj_fetch 110 0 = some (.iload_n 1, 0, 0) := by decide +kernel
theorem f_110_1 : mj_fetch 110 1 = some (.iload_n 0, 0, 0) := by decide +kernel
theorem f_110_2 : mj_fetch 110 2 = some (.invokestatic 149, 108, 0) := by decide +kernel
theorem f_110_5 : mj_fetch 110 5 = some (.iload_n 2, 0, 0) := by decide +kernel
theorem f_110_6 : mj_fetch 110 6 = some (.iload_n 0, 0, 0) := by decide +kernel
theorem f_110_7 : mj_fetch 110 7 = some (.invokestatic 149, 108, 0) := by decide +kernel
theorem f_110_10 : mj_fetch 110 10 = some (.isub, 0, 0) := by decide +kernel
theorem f_110_11 : mj_fetch 110 11 = some (.invokestatic 311, 0, 4) := by decide +kernel
theorem f_110_14 : mj_fetch 110 14 = some (.ireturn, 0, 0) := by decide +kernel
theorem f_111_0 : mj_fetch 111 0 = some (.iconst 0, 0, 0) := by decide +kernel
theorem f_111_1 : mj_fetch 111 1 = some (.iload_n 0, 0, 0) := by decide +kernel
theorem f_111_2 : mj_fetch 111 2 = some (.iload_n 1, 0, 0) := by decide +kernel
theorem f_111_3 : mj_fetch 111 3 = some (.invokestatic 316, 110, 0) := by decide +kernel
theorem f_111_6 : mj_fetch 111 6 = some (.iconst 1, 0, 0) := by decide +kernel
theorem f_111_7 : mj_fetch 111 7 = some (.iload_n 0, 0, 0) := by decide +kernel
theorem f_111_8 : mj_fetch 111 8 = some (.iload_n 1, 0, 0) := by decide +kernel
theorem f_111_9 : mj_fetch 111 9 = some (.invokestatic 316, 110, 0) := by decide +kernel
theorem f_111_12 : mj_fetch 111 12 = some (.iadd, 0, 0) := by decide +kernel
theorem f_111_13 : mj_fetch 111 13 = some (.iconst 2, 0, 0) := by decide +kernel
theorem f_111_14 : mj_fetch 111 14 = some (.iload_n 0, 0, 0) := by decide +kernel
theorem f_111_15 : mj_fetch 111 15 = some (.iload_n 1, 0, 0) := by decide +kernel
theorem f_111_16 : mj_fetch 111 16 = some (.invokestatic 316, 110, 0) := by decide +kernel
theorem f_111_19 : mj_fetch 111 19 = some (.iadd, 0, 0) := by decide +kernel
theorem f_111_20 : mj_fetch 111 20 = some (.ireturn, 0, 0) := by decide +kernel
