theorem dX0_init_0 : decode cX0_init 0 = .ok (.aload_n 0, 1) := by decide +kernel
theorem dX0_init_1 : decode cX0_init 1 = .ok (.invokespecial 3, 3) := by decide +kernel
theorem dX0_init_4 : decode cX0_init 4 = .ok (.aload_n 0, 1) := by decide +kernel
theorem dX0_init_5 : decode cX0_init 5 = .ok (.bipush 16, 2) := by decide +kernel
theorem dX0_init_7 : decode cX0_init 7 = .ok (.newarray .int, 2) := by decide +kernel
theorem dX0_init_9 : decode cX0_init 9 = .ok (.putfield 9, 3) := by decide +kernel
theorem dX0_init_12 : decode cX0_init 12 = .ok (.aload_n 0, 1) := by decide +kernel
theorem dX0_init_13 : decode cX0_init 13 = .ok (.iconst 4, 1) := by decide +kernel
theorem dX0_init_14 : decode cX0_init 14 = .ok (.newarray .int, 2) := by decide +kernel
theorem dX0_init_16 : decode cX0_init 16 = .ok (.putfield 15, 3) := by decide +kernel
theorem dX0_init_19 : decode cX0_init 19 = .ok (.aload_n 0, 1) := by decide +kernel
theorem dX0_init_20 : decode cX0_init 20 = .ok (.iconst 4, 1) := by decide +kernel
theorem dX0_init_21 : decode cX0_init 21 = .ok (.newarray .int, 2) := by decide +kernel
theorem dX0_init_23 : decode cX0_init 23 = .ok (.putfield 18, 3) := by decide +kernel
theorem dX0_init_26 : decode cX0_init 26 = .ok (.aload_n 0, 1) := by decide +kernel
theorem dX0_init_27 : decode cX0_init 27 = .ok (.iconst 4, 1) := by decide +kernel
theorem dX0_init_28 : decode cX0_init 28 = .ok (.newarray .int, 2) := by decide +kernel
theorem dX0_init_30 : decode cX0_init 30 = .ok (.putfield 21, 3) := by decide +kernel
theorem dX0_init_33 : decode cX0_init 33 = .ok (.return_, 1) := by decide +kernel
theorem dX0_leastCycle_0 : decode cX0_leastCycle 0 = .ok (.aload_n 0, 1) := by decide +kernel
theorem dX0_leastCycle_1 : decode cX0_leastCycle 1 = .ok (.aload_n 1, 1) := by decide +kernel
theorem dX0_leastCycle_2 : decode cX0_leastCycle 2 = .ok (.aload_n 2, 1) := by decide +kernel
theorem dX0_leastCycle_3 : decode cX0_leastCycle 3 = .ok (.invokevirtual 24, 3) := by decide +kernel
theorem dX0_leastCycle_6 : decode cX0_leastCycle 6 = .ok (.ifCond .eq 5, 3) := by decide +kernel
theorem dX0_leastCycle_9 : decode cX0_leastCycle 9 = .ok (.iconst (-1), 1) := by decide +kernel
theorem dX0_leastCycle_10 : decode cX0_leastCycle 10 = .ok (.ireturn, 1) := by decide +kernel
theorem dX0_leastCycle_11 : decode cX0_leastCycle 11 = .ok (.bipush 20, 2) := by decide +kernel
theorem dX0_leastCycle_13 : decode cX0_leastCycle 13 = .ok (.istore_n 3, 1) := by decide +kernel
theorem dX0_leastCycle_14 : decode cX0_leastCycle 14 = .ok (.iload_n 3, 1) := by decide +kernel
theorem dX0_leastCycle_15 : decode cX0_leastCycle 15 = .ok (.bipush 90, 2) := by decide +kernel
theorem dX0_leastCycle_17 : decode cX0_leastCycle 17 = .ok (.if_icmp .gt 37, 3) := by decide +kernel
theorem dX0_leastCycle_20 : decode cX0_leastCycle 20 = .ok (.aload_n 0, 1) := by decide +kernel
theorem dX0_leastCycle_21 : decode cX0_leastCycle 21 = .ok (.aload_n 1, 1) := by decide +kernel
theorem dX0_leastCycle_22 : decode cX0_leastCycle 22 = .ok (.aload_n 2, 1) := by decide +kernel
theorem dX0_leastCycle_23 : decode cX0_leastCycle 23 = .ok (.lconst 1, 1) := by decide +kernel
theorem dX0_leastCycle_24 : decode cX0_leastCycle 24 = .ok (.iload_n 3, 1) := by decide +kernel
theorem dX0_leastCycle_25 : decode cX0_leastCycle 25 = .ok (.i2l, 1) := by decide +kernel
theorem dX0_leastCycle_26 : decode cX0_leastCycle 26 = .ok (.invokevirtual 28, 3) := by decide +kernel
theorem dX0_leastCycle_29 : decode cX0_leastCycle 29 = .ok (.aload_n 0, 1) := by decide +kernel
theorem dX0_leastCycle_30 : decode cX0_leastCycle 30 = .ok (.iload_n 3, 1) := by decide +kernel
theorem dX0_leastCycle_31 : decode cX0_leastCycle 31 = .ok (.aload_n 2, 1) := by decide +kernel
theorem dX0_leastCycle_32 : decode cX0_leastCycle 32 = .ok (.invokevirtual 32, 3) := by decide +kernel
theorem dX0_leastCycle_35 : decode cX0_leastCycle 35 = .ok (.isub, 1) := by decide +kernel
theorem dX0_leastCycle_36 : decode cX0_leastCycle 36 = .ok (.aload_n 2, 1) := by decide +kernel
theorem dX0_leastCycle_37 : decode cX0_leastCycle 37 = .ok (.getfield 38, 3) := by decide +kernel
theorem dX0_leastCycle_40 : decode cX0_leastCycle 40 = .ok (.invokevirtual 42, 3) := by decide +kernel
theorem dX0_leastCycle_43 : decode cX0_leastCycle 43 = .ok (.ifCond .eq 5, 3) := by decide +kernel
theorem dX0_leastCycle_46 : decode cX0_leastCycle 46 = .ok (.iload_n 3, 1) := by decide +kernel
theorem dX0_leastCycle_47 : decode cX0_leastCycle 47 = .ok (.ireturn, 1) := by decide +kernel
theorem dX0_leastCycle_48 : decode cX0_leastCycle 48 = .ok (.iinc 3 1, 3) := by decide +kernel
theorem dX0_leastCycle_51 : decode cX0_leastCycle 51 = .ok (.goto (-37), 3) := by decide +kernel
theorem dX0_leastCycle_54 : decode cX0_leastCycle 54 = .ok (.iconst (-1), 1) := by decide +kernel
theorem dX0_leastCycle_55 : decode cX0_leastCycle 55 = .ok (.ireturn, 1) := by decide +kernel
theorem dX0_leavesOneOut_0 : decode cX0_leavesOneOut 0 = .ok (.iconst 0, 1) := by decide +kernel
theorem dX0_leavesOneOut_1 : decode cX0_leavesOneOut 1 = .ok (.istore_n 3, 1) := by decide +kernel
theorem dX0_leavesOneOut_2 : decode cX0_leavesOneOut 2 = .ok (.iload_n 3, 1) := by decide +kernel
theorem dX0_leavesOneOut_3 : decode cX0_leavesOneOut 3 = .ok (.aload_n 1, 1) := by decide +kernel
theorem dX0_leavesOneOut_4 : decode cX0_leavesOneOut 4 = .ok (.getfield 46, 3) := by decide +kernel
theorem dX0_leavesOneOut_7 : decode cX0_leavesOneOut 7 = .ok (.if_icmp .ge 31, 3) := by decide +kernel
theorem dX0_leavesOneOut_10 : decode cX0_leavesOneOut 10 = .ok (.aload_n 1, 1) := by decide +kernel
theorem dX0_leavesOneOut_11 : decode cX0_leavesOneOut 11 = .ok (.getfield 51, 3) := by decide +kernel
theorem dX0_leavesOneOut_14 : decode cX0_leavesOneOut 14 = .ok (.iload_n 3, 1) := by decide +kernel
theorem dX0_leavesOneOut_15 : decode cX0_leavesOneOut 15 = .ok (.aaload, 1) := by decide +kernel
theorem dX0_leavesOneOut_16 : decode cX0_leavesOneOut 16 = .ok (.getfield 55, 3) := by decide +kernel
theorem dX0_leavesOneOut_19 : decode cX0_leavesOneOut 19 = .ok (.ifCond .le 13, 3) := by decide +kernel
theorem dX0_leavesOneOut_22 : decode cX0_leavesOneOut 22 = .ok (.aload_n 2, 1) := by decide +kernel
theorem dX0_leavesOneOut_23 : decode cX0_leavesOneOut 23 = .ok (.iload_n 3, 1) := by decide +kernel
theorem dX0_leavesOneOut_24 : decode cX0_leavesOneOut 24 = .ok (.invokevirtual 60, 3) := by decide +kernel
theorem dX0_leavesOneOut_27 : decode cX0_leavesOneOut 27 = .ok (.ifCond .ne 5, 3) := by decide +kernel
theorem dX0_leavesOneOut_30 : decode cX0_leavesOneOut 30 = .ok (.iconst 1, 1) := by decide +kernel
theorem dX0_leavesOneOut_31 : decode cX0_leavesOneOut 31 = .ok (.ireturn, 1) := by decide +kernel
theorem dX0_leavesOneOut_32 : decode cX0_leavesOneOut 32 = .ok (.iinc 3 1, 3) := by decide +kernel
theorem dX0_leavesOneOut_35 : decode cX0_leavesOneOut 35 = .ok (.goto (-33), 3) := by decide +kernel
theorem dX0_leavesOneOut_38 : decode cX0_leavesOneOut 38 = .ok (.iconst 0, 1) := by decide +kernel
theorem dX0_leavesOneOut_39 : decode cX0_leavesOneOut 39 = .ok (.ireturn, 1) := by decide +kernel
theorem dX0_findFittest_0 : decode cX0_findFittest 0 = .ok (.aload_n 0, 1) := by decide +kernel
theorem dX0_findFittest_1 : decode cX0_findFittest 1 = .ok (.lconst 1, 1) := by decide +kernel
theorem dX0_findFittest_2 : decode cX0_findFittest 2 = .ok (.putfield 64, 3) := by decide +kernel
theorem dX0_findFittest_5 : decode cX0_findFittest 5 = .ok (.aload_n 0, 1) := by decide +kernel
theorem dX0_findFittest_6 : decode cX0_findFittest 6 = .ok (.lconst 0, 1) := by decide +kernel
theorem dX0_findFittest_7 : decode cX0_findFittest 7 = .ok (.putfield 68, 3) := by decide +kernel
theorem dX0_findFittest_10 : decode cX0_findFittest 10 = .ok (.iconst 0, 1) := by decide +kernel
theorem dX0_findFittest_11 : decode cX0_findFittest 11 = .ok (.istore 4, 2) := by decide +kernel
theorem dX0_findFittest_13 : decode cX0_findFittest 13 = .ok (.iload 4, 2) := by decide +kernel
theorem dX0_findFittest_15 : decode cX0_findFittest 15 = .ok (.aload_n 1, 1) := by decide +kernel
theorem dX0_findFittest_16 : decode cX0_findFittest 16 = .ok (.getfield 46, 3) := by decide +kernel
theorem dX0_findFittest_19 : decode cX0_findFittest 19 = .ok (.if_icmp .ge 66, 3) := by decide +kernel
theorem dX0_findFittest_22 : decode cX0_findFittest 22 = .ok (.aload_n 1, 1) := by decide +kernel
theorem dX0_findFittest_23 : decode cX0_findFittest 23 = .ok (.getfield 51, 3) := by decide +kernel
theorem dX0_findFittest_26 : decode cX0_findFittest 26 = .ok (.iload 4, 2) := by decide +kernel
theorem dX0_findFittest_28 : decode cX0_findFittest 28 = .ok (.aaload, 1) := by decide +kernel
theorem dX0_findFittest_29 : decode cX0_findFittest 29 = .ok (.astore 5, 2) := by decide +kernel
theorem dX0_findFittest_31 : decode cX0_findFittest 31 = .ok (.aload 5, 2) := by decide +kernel
theorem dX0_findFittest_33 : decode cX0_findFittest 33 = .ok (.getfield 55, 3) := by decide +kernel
theorem dX0_findFittest_36 : decode cX0_findFittest 36 = .ok (.ifCond .le 43, 3) := by decide +kernel
theorem dX0_findFittest_39 : decode cX0_findFittest 39 = .ok (.aload_n 2, 1) := by decide +kernel
theorem dX0_findFittest_40 : decode cX0_findFittest 40 = .ok (.iload 4, 2) := by decide +kernel
theorem dX0_findFittest_42 : decode cX0_findFittest 42 = .ok (.invokevirtual 60, 3) := by decide +kernel
theorem dX0_findFittest_45 : decode cX0_findFittest 45 = .ok (.ifCond .eq 34, 3) := by decide +kernel
theorem dX0_findFittest_48 : decode cX0_findFittest 48 = .ok (.aload_n 0, 1) := by decide +kernel
theorem dX0_findFittest_49 : decode cX0_findFittest 49 = .ok (.aload_n 1, 1) := by decide +kernel
theorem dX0_findFittest_50 : decode cX0_findFittest 50 = .ok (.aload_n 2, 1) := by decide +kernel
theorem dX0_findFittest_51 : decode cX0_findFittest 51 = .ok (.iload 4, 2) := by decide +kernel
theorem dX0_findFittest_53 : decode cX0_findFittest 53 = .ok (.iload_n 3, 1) := by decide +kernel
theorem dX0_findFittest_54 : decode cX0_findFittest 54 = .ok (.invokevirtual 71, 3) := by decide +kernel
theorem dX0_findFittest_57 : decode cX0_findFittest 57 = .ok (.istore 6, 2) := by decide +kernel
theorem dX0_findFittest_59 : decode cX0_findFittest 59 = .ok (.aload_n 0, 1) := by decide +kernel
theorem dX0_findFittest_60 : decode cX0_findFittest 60 = .ok (.aload 5, 2) := by decide +kernel
theorem dX0_findFittest_62 : decode cX0_findFittest 62 = .ok (.getfield 55, 3) := by decide +kernel
theorem dX0_findFittest_65 : decode cX0_findFittest 65 = .ok (.i2l, 1) := by decide +kernel
theorem dX0_findFittest_66 : decode cX0_findFittest 66 = .ok (.aload 5, 2) := by decide +kernel
theorem dX0_findFittest_68 : decode cX0_findFittest 68 = .ok (.getfield 75, 3) := by decide +kernel
theorem dX0_findFittest_71 : decode cX0_findFittest 71 = .ok (.i2l, 1) := by decide +kernel
theorem dX0_findFittest_72 : decode cX0_findFittest 72 = .ok (.iload 6, 2) := by decide +kernel
theorem dX0_findFittest_74 : decode cX0_findFittest 74 = .ok (.i2l, 1) := by decide +kernel
theorem dX0_findFittest_75 : decode cX0_findFittest 75 = .ok (.lmul, 1) := by decide +kernel
theorem dX0_findFittest_76 : decode cX0_findFittest 76 = .ok (.invokevirtual 78, 3) := by decide +kernel
theorem dX0_findFittest_79 : decode cX0_findFittest 79 = .ok (.iinc 4 1, 3) := by decide +kernel
theorem dX0_findFittest_82 : decode cX0_findFittest 82 = .ok (.goto (-69), 3) := by decide +kernel
theorem dX0_findFittest_85 : decode cX0_findFittest 85 = .ok (.aload_n 0, 1) := by decide +kernel
theorem dX0_findFittest_86 : decode cX0_findFittest 86 = .ok (.aload_n 1, 1) := by decide +kernel
theorem dX0_findFittest_87 : decode cX0_findFittest 87 = .ok (.aload_n 2, 1) := by decide +kernel
theorem dX0_findFittest_88 : decode cX0_findFittest 88 = .ok (.aload_n 0, 1) := by decide +kernel
theorem dX0_findFittest_89 : decode cX0_findFittest 89 = .ok (.getfield 64, 3) := by decide +kernel
theorem dX0_findFittest_92 : decode cX0_findFittest 92 = .ok (.aload_n 0, 1) := by decide +kernel
theorem dX0_findFittest_93 : decode cX0_findFittest 93 = .ok (.getfield 68, 3) := by decide +kernel
theorem dX0_findFittest_96 : decode cX0_findFittest 96 = .ok (.invokevirtual 28, 3) := by decide +kernel
theorem dX0_findFittest_99 : decode cX0_findFittest 99 = .ok (.aload_n 0, 1) := by decide +kernel
theorem dX0_findFittest_100 : decode cX0_findFittest 100 = .ok (.iload_n 3, 1) := by decide +kernel
theorem dX0_findFittest_101 : decode cX0_findFittest 101 = .ok (.aload_n 2, 1) := by decide +kernel
theorem dX0_findFittest_102 : decode cX0_findFittest 102 = .ok (.getfield 38, 3) := by decide +kernel
theorem dX0_findFittest_105 : decode cX0_findFittest 105 = .ok (.invokevirtual 42, 3) := by decide +kernel
theorem dX0_findFittest_108 : decode cX0_findFittest 108 = .ok (.pop, 1) := by decide +kernel
theorem dX0_findFittest_109 : decode cX0_findFittest 109 = .ok (.return_, 1) := by decide +kernel
theorem dX0_mostGreen_0 : decode cX0_mostGreen 0 = .ok (.iconst 0, 1) := by decide +kernel
theorem dX0_mostGreen_1 : decode cX0_mostGreen 1 = .ok (.istore 5, 2) := by decide +kernel
theorem dX0_mostGreen_3 : decode cX0_mostGreen 3 = .ok (.iload 4, 2) := by decide +kernel
theorem dX0_mostGreen_5 : decode cX0_mostGreen 5 = .ok (.iconst 1, 1) := by decide +kernel
theorem dX0_mostGreen_6 : decode cX0_mostGreen 6 = .ok (.iadd, 1) := by decide +kernel
theorem dX0_mostGreen_7 : decode cX0_mostGreen 7 = .ok (.istore 6, 2) := by decide +kernel
theorem dX0_mostGreen_9 : decode cX0_mostGreen 9 = .ok (.iconst 0, 1) := by decide +kernel
theorem dX0_mostGreen_10 : decode cX0_mostGreen 10 = .ok (.istore 7, 2) := by decide +kernel
theorem dX0_mostGreen_12 : decode cX0_mostGreen 12 = .ok (.iload 7, 2) := by decide +kernel
theorem dX0_mostGreen_14 : decode cX0_mostGreen 14 = .ok (.bipush 90, 2) := by decide +kernel
theorem dX0_mostGreen_16 : decode cX0_mostGreen 16 = .ok (.if_icmp .ge 81, 3) := by decide +kernel
theorem dX0_mostGreen_19 : decode cX0_mostGreen 19 = .ok (.iload 6, 2) := by decide +kernel
theorem dX0_mostGreen_21 : decode cX0_mostGreen 21 = .ok (.iload 5, 2) := by decide +kernel
theorem dX0_mostGreen_23 : decode cX0_mostGreen 23 = .ok (.isub, 1) := by decide +kernel
theorem dX0_mostGreen_24 : decode cX0_mostGreen 24 = .ok (.iconst 1, 1) := by decide +kernel
theorem dX0_mostGreen_25 : decode cX0_mostGreen 25 = .ok (.if_icmp .le 72, 3) := by decide +kernel
theorem dX0_mostGreen_28 : decode cX0_mostGreen 28 = .ok (.iload 5, 2) := by decide +kernel
theorem dX0_mostGreen_30 : decode cX0_mostGreen 30 = .ok (.iload 6, 2) := by decide +kernel
theorem dX0_mostGreen_32 : decode cX0_mostGreen 32 = .ok (.iadd, 1) := by decide +kernel
theorem dX0_mostGreen_33 : decode cX0_mostGreen 33 = .ok (.iconst 2, 1) := by decide +kernel
theorem dX0_mostGreen_34 : decode cX0_mostGreen 34 = .ok (.idiv, 1) := by decide +kernel
theorem dX0_mostGreen_35 : decode cX0_mostGreen 35 = .ok (.istore 8, 2) := by decide +kernel
theorem dX0_mostGreen_37 : decode cX0_mostGreen 37 = .ok (.aload_n 0, 1) := by decide +kernel
theorem dX0_mostGreen_38 : decode cX0_mostGreen 38 = .ok (.aload_n 1, 1) := by decide +kernel
theorem dX0_mostGreen_39 : decode cX0_mostGreen 39 = .ok (.aload_n 2, 1) := by decide +kernel
theorem dX0_mostGreen_40 : decode cX0_mostGreen 40 = .ok (.aload_n 1, 1) := by decide +kernel
theorem dX0_mostGreen_41 : decode cX0_mostGreen 41 = .ok (.getfield 51, 3) := by decide +kernel
theorem dX0_mostGreen_44 : decode cX0_mostGreen 44 = .ok (.iload_n 3, 1) := by decide +kernel
theorem dX0_mostGreen_45 : decode cX0_mostGreen 45 = .ok (.aaload, 1) := by decide +kernel
theorem dX0_mostGreen_46 : decode cX0_mostGreen 46 = .ok (.getfield 55, 3) := by decide +kernel
theorem dX0_mostGreen_49 : decode cX0_mostGreen 49 = .ok (.i2l, 1) := by decide +kernel
theorem dX0_mostGreen_50 : decode cX0_mostGreen 50 = .ok (.aload_n 1, 1) := by decide +kernel
theorem dX0_mostGreen_51 : decode cX0_mostGreen 51 = .ok (.getfield 51, 3) := by decide +kernel
theorem dX0_mostGreen_54 : decode cX0_mostGreen 54 = .ok (.iload_n 3, 1) := by decide +kernel
theorem dX0_mostGreen_55 : decode cX0_mostGreen 55 = .ok (.aaload, 1) := by decide +kernel
theorem dX0_mostGreen_56 : decode cX0_mostGreen 56 = .ok (.getfield 75, 3) := by decide +kernel
theorem dX0_mostGreen_59 : decode cX0_mostGreen 59 = .ok (.i2l, 1) := by decide +kernel
theorem dX0_mostGreen_60 : decode cX0_mostGreen 60 = .ok (.iload 8, 2) := by decide +kernel
theorem dX0_mostGreen_62 : decode cX0_mostGreen 62 = .ok (.i2l, 1) := by decide +kernel
theorem dX0_mostGreen_63 : decode cX0_mostGreen 63 = .ok (.lmul, 1) := by decide +kernel
theorem dX0_mostGreen_64 : decode cX0_mostGreen 64 = .ok (.invokevirtual 28, 3) := by decide +kernel
theorem dX0_mostGreen_67 : decode cX0_mostGreen 67 = .ok (.aload_n 0, 1) := by decide +kernel
theorem dX0_mostGreen_68 : decode cX0_mostGreen 68 = .ok (.iload 4, 2) := by decide +kernel
theorem dX0_mostGreen_70 : decode cX0_mostGreen 70 = .ok (.aload_n 2, 1) := by decide +kernel
theorem dX0_mostGreen_71 : decode cX0_mostGreen 71 = .ok (.getfield 38, 3) := by decide +kernel
theorem dX0_mostGreen_74 : decode cX0_mostGreen 74 = .ok (.invokevirtual 42, 3) := by decide +kernel
theorem dX0_mostGreen_77 : decode cX0_mostGreen 77 = .ok (.ifCond .eq 10, 3) := by decide +kernel
theorem dX0_mostGreen_80 : decode cX0_mostGreen 80 = .ok (.iload 8, 2) := by decide +kernel
theorem dX0_mostGreen_82 : decode cX0_mostGreen 82 = .ok (.istore 5, 2) := by decide +kernel
theorem dX0_mostGreen_84 : decode cX0_mostGreen 84 = .ok (.goto 7, 3) := by decide +kernel
theorem dX0_mostGreen_87 : decode cX0_mostGreen 87 = .ok (.iload 8, 2) := by decide +kernel
theorem dX0_mostGreen_89 : decode cX0_mostGreen 89 = .ok (.istore 6, 2) := by decide +kernel
theorem dX0_mostGreen_91 : decode cX0_mostGreen 91 = .ok (.iinc 7 1, 3) := by decide +kernel
theorem dX0_mostGreen_94 : decode cX0_mostGreen 94 = .ok (.goto (-82), 3) := by decide +kernel
theorem dX0_mostGreen_97 : decode cX0_mostGreen 97 = .ok (.iload 5, 2) := by decide +kernel
theorem dX0_mostGreen_99 : decode cX0_mostGreen 99 = .ok (.ireturn, 1) := by decide +kernel
theorem dX0_keepIfBetter_0 : decode cX0_keepIfBetter 0 = .ok (.lload_n 1, 1) := by decide +kernel
theorem dX0_keepIfBetter_1 : decode cX0_keepIfBetter 1 = .ok (.aload_n 0, 1) := by decide +kernel
theorem dX0_keepIfBetter_2 : decode cX0_keepIfBetter 2 = .ok (.getfield 68, 3) := by decide +kernel
theorem dX0_keepIfBetter_5 : decode cX0_keepIfBetter 5 = .ok (.lmul, 1) := by decide +kernel
theorem dX0_keepIfBetter_6 : decode cX0_keepIfBetter 6 = .ok (.aload_n 0, 1) := by decide +kernel
theorem dX0_keepIfBetter_7 : decode cX0_keepIfBetter 7 = .ok (.getfield 64, 3) := by decide +kernel
theorem dX0_keepIfBetter_10 : decode cX0_keepIfBetter 10 = .ok (.lload_n 3, 1) := by decide +kernel
theorem dX0_keepIfBetter_11 : decode cX0_keepIfBetter 11 = .ok (.lmul, 1) := by decide +kernel
theorem dX0_keepIfBetter_12 : decode cX0_keepIfBetter 12 = .ok (.lcmp, 1) := by decide +kernel
theorem dX0_keepIfBetter_13 : decode cX0_keepIfBetter 13 = .ok (.ifCond .ge 13, 3) := by decide +kernel
theorem dX0_keepIfBetter_16 : decode cX0_keepIfBetter 16 = .ok (.aload_n 0, 1) := by decide +kernel
theorem dX0_keepIfBetter_17 : decode cX0_keepIfBetter 17 = .ok (.lload_n 1, 1) := by decide +kernel
theorem dX0_keepIfBetter_18 : decode cX0_keepIfBetter 18 = .ok (.putfield 64, 3) := by decide +kernel
theorem dX0_keepIfBetter_21 : decode cX0_keepIfBetter 21 = .ok (.aload_n 0, 1) := by decide +kernel
theorem dX0_keepIfBetter_22 : decode cX0_keepIfBetter 22 = .ok (.lload_n 3, 1) := by decide +kernel
theorem dX0_keepIfBetter_23 : decode cX0_keepIfBetter 23 = .ok (.putfield 68, 3) := by decide +kernel
theorem dX0_keepIfBetter_26 : decode cX0_keepIfBetter 26 = .ok (.return_, 1) := by decide +kernel
theorem dX0_askForLoad_0 : decode cX0_askForLoad 0 = .ok (.iconst 0, 1) := by decide +kernel
theorem dX0_askForLoad_1 : decode cX0_askForLoad 1 = .ok (.istore 7, 2) := by decide +kernel
theorem dX0_askForLoad_3 : decode cX0_askForLoad 3 = .ok (.iload 7, 2) := by decide +kernel
theorem dX0_askForLoad_5 : decode cX0_askForLoad 5 = .ok (.aload_n 0, 1) := by decide +kernel
theorem dX0_askForLoad_6 : decode cX0_askForLoad 6 = .ok (.getfield 9, 3) := by decide +kernel
theorem dX0_askForLoad_9 : decode cX0_askForLoad 9 = .ok (.arraylength, 1) := by decide +kernel
theorem dX0_askForLoad_10 : decode cX0_askForLoad 10 = .ok (.if_icmp .ge 17, 3) := by decide +kernel
theorem dX0_askForLoad_13 : decode cX0_askForLoad 13 = .ok (.aload_n 0, 1) := by decide +kernel
theorem dX0_askForLoad_14 : decode cX0_askForLoad 14 = .ok (.getfield 9, 3) := by decide +kernel
theorem dX0_askForLoad_17 : decode cX0_askForLoad 17 = .ok (.iload 7, 2) := by decide +kernel
theorem dX0_askForLoad_19 : decode cX0_askForLoad 19 = .ok (.iconst 0, 1) := by decide +kernel
theorem dX0_askForLoad_20 : decode cX0_askForLoad 20 = .ok (.iastore, 1) := by decide +kernel
theorem dX0_askForLoad_21 : decode cX0_askForLoad 21 = .ok (.iinc 7 1, 3) := by decide +kernel
theorem dX0_askForLoad_24 : decode cX0_askForLoad 24 = .ok (.goto (-21), 3) := by decide +kernel
theorem dX0_askForLoad_27 : decode cX0_askForLoad 27 = .ok (.iconst 0, 1) := by decide +kernel
theorem dX0_askForLoad_28 : decode cX0_askForLoad 28 = .ok (.istore 7, 2) := by decide +kernel
theorem dX0_askForLoad_30 : decode cX0_askForLoad 30 = .ok (.iload 7, 2) := by decide +kernel
theorem dX0_askForLoad_32 : decode cX0_askForLoad 32 = .ok (.aload_n 1, 1) := by decide +kernel
theorem dX0_askForLoad_33 : decode cX0_askForLoad 33 = .ok (.getfield 46, 3) := by decide +kernel
theorem dX0_askForLoad_36 : decode cX0_askForLoad 36 = .ok (.if_icmp .ge 67, 3) := by decide +kernel
theorem dX0_askForLoad_39 : decode cX0_askForLoad 39 = .ok (.aload_n 1, 1) := by decide +kernel
theorem dX0_askForLoad_40 : decode cX0_askForLoad 40 = .ok (.getfield 51, 3) := by decide +kernel
theorem dX0_askForLoad_43 : decode cX0_askForLoad 43 = .ok (.iload 7, 2) := by decide +kernel
theorem dX0_askForLoad_45 : decode cX0_askForLoad 45 = .ok (.aaload, 1) := by decide +kernel
theorem dX0_askForLoad_46 : decode cX0_askForLoad 46 = .ok (.astore 8, 2) := by decide +kernel
theorem dX0_askForLoad_48 : decode cX0_askForLoad 48 = .ok (.aload_n 2, 1) := by decide +kernel
theorem dX0_askForLoad_49 : decode cX0_askForLoad 49 = .ok (.iload 7, 2) := by decide +kernel
theorem dX0_askForLoad_51 : decode cX0_askForLoad 51 = .ok (.invokevirtual 60, 3) := by decide +kernel
theorem dX0_askForLoad_54 : decode cX0_askForLoad 54 = .ok (.istore 9, 2) := by decide +kernel
theorem dX0_askForLoad_56 : decode cX0_askForLoad 56 = .ok (.aload 8, 2) := by decide +kernel
theorem dX0_askForLoad_58 : decode cX0_askForLoad 58 = .ok (.getfield 55, 3) := by decide +kernel
theorem dX0_askForLoad_61 : decode cX0_askForLoad 61 = .ok (.i2l, 1) := by decide +kernel
theorem dX0_askForLoad_62 : decode cX0_askForLoad 62 = .ok (.lload 5, 2) := by decide +kernel
theorem dX0_askForLoad_64 : decode cX0_askForLoad 64 = .ok (.lmul, 1) := by decide +kernel
theorem dX0_askForLoad_65 : decode cX0_askForLoad 65 = .ok (.aload 8, 2) := by decide +kernel
theorem dX0_askForLoad_67 : decode cX0_askForLoad 67 = .ok (.getfield 75, 3) := by decide +kernel
theorem dX0_askForLoad_70 : decode cX0_askForLoad 70 = .ok (.i2l, 1) := by decide +kernel
theorem dX0_askForLoad_71 : decode cX0_askForLoad 71 = .ok (.lload_n 3, 1) := by decide +kernel
theorem dX0_askForLoad_72 : decode cX0_askForLoad 72 = .ok (.lmul, 1) := by decide +kernel
theorem dX0_askForLoad_73 : decode cX0_askForLoad 73 = .ok (.invokestatic 82, 3) := by decide +kernel
theorem dX0_askForLoad_76 : decode cX0_askForLoad 76 = .ok (.istore 10, 2) := by decide +kernel
theorem dX0_askForLoad_78 : decode cX0_askForLoad 78 = .ok (.aload_n 0, 1) := by decide +kernel
theorem dX0_askForLoad_79 : decode cX0_askForLoad 79 = .ok (.getfield 9, 3) := by decide +kernel
theorem dX0_askForLoad_82 : decode cX0_askForLoad 82 = .ok (.iload 9, 2) := by decide +kernel
theorem dX0_askForLoad_84 : decode cX0_askForLoad 84 = .ok (.aload_n 0, 1) := by decide +kernel
theorem dX0_askForLoad_85 : decode cX0_askForLoad 85 = .ok (.getfield 9, 3) := by decide +kernel
theorem dX0_askForLoad_88 : decode cX0_askForLoad 88 = .ok (.iload 9, 2) := by decide +kernel
theorem dX0_askForLoad_90 : decode cX0_askForLoad 90 = .ok (.iaload, 1) := by decide +kernel
theorem dX0_askForLoad_91 : decode cX0_askForLoad 91 = .ok (.iload 10, 2) := by decide +kernel
theorem dX0_askForLoad_93 : decode cX0_askForLoad 93 = .ok (.invokestatic 86, 3) := by decide +kernel
theorem dX0_askForLoad_96 : decode cX0_askForLoad 96 = .ok (.iastore, 1) := by decide +kernel
theorem dX0_askForLoad_97 : decode cX0_askForLoad 97 = .ok (.iinc 7 1, 3) := by decide +kernel
theorem dX0_askForLoad_100 : decode cX0_askForLoad 100 = .ok (.goto (-70), 3) := by decide +kernel
theorem dX0_askForLoad_103 : decode cX0_askForLoad 103 = .ok (.return_, 1) := by decide +kernel
theorem dX0_partsUp_0 : decode cX0_partsUp 0 = .ok (.lload_n 2, 1) := by decide +kernel
theorem dX0_partsUp_1 : decode cX0_partsUp 1 = .ok (.lconst 0, 1) := by decide +kernel
theorem dX0_partsUp_2 : decode cX0_partsUp 2 = .ok (.lcmp, 1) := by decide +kernel
theorem dX0_partsUp_3 : decode cX0_partsUp 3 = .ok (.ifCond .gt 16, 3) := by decide +kernel
theorem dX0_partsUp_6 : decode cX0_partsUp 6 = .ok (.lload_n 0, 1) := by decide +kernel
theorem dX0_partsUp_7 : decode cX0_partsUp 7 = .ok (.lconst 0, 1) := by decide +kernel
theorem dX0_partsUp_8 : decode cX0_partsUp 8 = .ok (.lcmp, 1) := by decide +kernel
theorem dX0_partsUp_9 : decode cX0_partsUp 9 = .ok (.ifCond .le 8, 3) := by decide +kernel
theorem dX0_partsUp_12 : decode cX0_partsUp 12 = .ok (.ldc 92, 2) := by decide +kernel
theorem dX0_partsUp_14 : decode cX0_partsUp 14 = .ok (.goto 4, 3) := by decide +kernel
theorem dX0_partsUp_17 : decode cX0_partsUp 17 = .ok (.iconst 0, 1) := by decide +kernel
theorem dX0_partsUp_18 : decode cX0_partsUp 18 = .ok (.ireturn, 1) := by decide +kernel
theorem dX0_partsUp_19 : decode cX0_partsUp 19 = .ok (.ldc2_w 93, 3) := by decide +kernel
theorem dX0_partsUp_22 : decode cX0_partsUp 22 = .ok (.lload_n 0, 1) := by decide +kernel
theorem dX0_partsUp_23 : decode cX0_partsUp 23 = .ok (.lload_n 2, 1) := by decide +kernel
theorem dX0_partsUp_24 : decode cX0_partsUp 24 = .ok (.ladd, 1) := by decide +kernel
theorem dX0_partsUp_25 : decode cX0_partsUp 25 = .ok (.lconst 1, 1) := by decide +kernel
theorem dX0_partsUp_26 : decode cX0_partsUp 26 = .ok (.lsub, 1) := by decide +kernel
theorem dX0_partsUp_27 : decode cX0_partsUp 27 = .ok (.lload_n 2, 1) := by decide +kernel
theorem dX0_partsUp_28 : decode cX0_partsUp 28 = .ok (.ldiv, 1) := by decide +kernel
theorem dX0_partsUp_29 : decode cX0_partsUp 29 = .ok (.invokestatic 95, 3) := by decide +kernel
theorem dX0_partsUp_32 : decode cX0_partsUp 32 = .ok (.l2i, 1) := by decide +kernel
theorem dX0_partsUp_33 : decode cX0_partsUp 33 = .ok (.ireturn, 1) := by decide +kernel
theorem dX0_deals_0 : decode cX0_deals 0 = .ok (.iconst 1, 1) := by decide +kernel
theorem dX0_deals_1 : decode cX0_deals 1 = .ok (.aload_n 0, 1) := by decide +kernel
theorem dX0_deals_2 : decode cX0_deals 2 = .ok (.getfield 9, 3) := by decide +kernel
theorem dX0_deals_5 : decode cX0_deals 5 = .ok (.iconst 1, 1) := by decide +kernel
theorem dX0_deals_6 : decode cX0_deals 6 = .ok (.iaload, 1) := by decide +kernel
theorem dX0_deals_7 : decode cX0_deals 7 = .ok (.invokestatic 86, 3) := by decide +kernel
theorem dX0_deals_10 : decode cX0_deals 10 = .ok (.istore_n 3, 1) := by decide +kernel
theorem dX0_deals_11 : decode cX0_deals 11 = .ok (.iload_n 3, 1) := by decide +kernel
theorem dX0_deals_12 : decode cX0_deals 12 = .ok (.iload_n 1, 1) := by decide +kernel
theorem dX0_deals_13 : decode cX0_deals 13 = .ok (.if_icmp .ge 30, 3) := by decide +kernel
theorem dX0_deals_16 : decode cX0_deals 16 = .ok (.aload_n 0, 1) := by decide +kernel
theorem dX0_deals_17 : decode cX0_deals 17 = .ok (.iload_n 3, 1) := by decide +kernel
theorem dX0_deals_18 : decode cX0_deals 18 = .ok (.iload_n 1, 1) := by decide +kernel
theorem dX0_deals_19 : decode cX0_deals 19 = .ok (.iload_n 3, 1) := by decide +kernel
theorem dX0_deals_20 : decode cX0_deals 20 = .ok (.isub, 1) := by decide +kernel
theorem dX0_deals_21 : decode cX0_deals 21 = .ok (.iload_n 2, 1) := by decide +kernel
theorem dX0_deals_22 : decode cX0_deals 22 = .ok (.invokevirtual 99, 3) := by decide +kernel
theorem dX0_deals_25 : decode cX0_deals 25 = .ok (.ifCond .eq 12, 3) := by decide +kernel
theorem dX0_deals_28 : decode cX0_deals 28 = .ok (.aload_n 0, 1) := by decide +kernel
theorem dX0_deals_29 : decode cX0_deals 29 = .ok (.getfield 21, 3) := by decide +kernel
theorem dX0_deals_32 : decode cX0_deals 32 = .ok (.iconst 0, 1) := by decide +kernel
theorem dX0_deals_33 : decode cX0_deals 33 = .ok (.iload_n 3, 1) := by decide +kernel
theorem dX0_deals_34 : decode cX0_deals 34 = .ok (.iastore, 1) := by decide +kernel
theorem dX0_deals_35 : decode cX0_deals 35 = .ok (.iconst 1, 1) := by decide +kernel
theorem dX0_deals_36 : decode cX0_deals 36 = .ok (.ireturn, 1) := by decide +kernel
theorem dX0_deals_37 : decode cX0_deals 37 = .ok (.iinc 3 1, 3) := by decide +kernel
theorem dX0_deals_40 : decode cX0_deals 40 = .ok (.goto (-29), 3) := by decide +kernel
theorem dX0_deals_43 : decode cX0_deals 43 = .ok (.iconst 0, 1) := by decide +kernel
theorem dX0_deals_44 : decode cX0_deals 44 = .ok (.ireturn, 1) := by decide +kernel
theorem dX0_dealsBehind_0 : decode cX0_dealsBehind 0 = .ok (.aload_n 0, 1) := by decide +kernel
theorem dX0_dealsBehind_1 : decode cX0_dealsBehind 1 = .ok (.bipush 14, 2) := by decide +kernel
theorem dX0_dealsBehind_3 : decode cX0_dealsBehind 3 = .ok (.iload_n 1, 1) := by decide +kernel
theorem dX0_dealsBehind_4 : decode cX0_dealsBehind 4 = .ok (.invokevirtual 103, 3) := by decide +kernel
theorem dX0_dealsBehind_7 : decode cX0_dealsBehind 7 = .ok (.iload_n 2, 1) := by decide +kernel
theorem dX0_dealsBehind_8 : decode cX0_dealsBehind 8 = .ok (.if_icmp .le 5, 3) := by decide +kernel
theorem dX0_dealsBehind_11 : decode cX0_dealsBehind 11 = .ok (.iconst 0, 1) := by decide +kernel
theorem dX0_dealsBehind_12 : decode cX0_dealsBehind 12 = .ok (.ireturn, 1) := by decide +kernel
theorem dX0_dealsBehind_13 : decode cX0_dealsBehind 13 = .ok (.iconst 1, 1) := by decide +kernel
theorem dX0_dealsBehind_14 : decode cX0_dealsBehind 14 = .ok (.istore 4, 2) := by decide +kernel
theorem dX0_dealsBehind_16 : decode cX0_dealsBehind 16 = .ok (.iload 4, 2) := by decide +kernel
theorem dX0_dealsBehind_18 : decode cX0_dealsBehind 18 = .ok (.iconst 4, 1) := by decide +kernel
theorem dX0_dealsBehind_19 : decode cX0_dealsBehind 19 = .ok (.if_icmp .ge 100, 3) := by decide +kernel
theorem dX0_dealsBehind_22 : decode cX0_dealsBehind 22 = .ok (.iload_n 2, 1) := by decide +kernel
theorem dX0_dealsBehind_23 : decode cX0_dealsBehind 23 = .ok (.aload_n 0, 1) := by decide +kernel
theorem dX0_dealsBehind_24 : decode cX0_dealsBehind 24 = .ok (.bipush 14, 2) := by decide +kernel
theorem dX0_dealsBehind_26 : decode cX0_dealsBehind 26 = .ok (.iconst 1, 1) := by decide +kernel
theorem dX0_dealsBehind_27 : decode cX0_dealsBehind 27 = .ok (.iload 4, 2) := by decide +kernel
theorem dX0_dealsBehind_29 : decode cX0_dealsBehind 29 = .ok (.ishl, 1) := by decide +kernel
theorem dX0_dealsBehind_30 : decode cX0_dealsBehind 30 = .ok (.iconst (-1), 1) := by decide +kernel
theorem dX0_dealsBehind_31 : decode cX0_dealsBehind 31 = .ok (.ixor, 1) := by decide +kernel
theorem dX0_dealsBehind_32 : decode cX0_dealsBehind 32 = .ok (.iand, 1) := by decide +kernel
theorem dX0_dealsBehind_33 : decode cX0_dealsBehind 33 = .ok (.iload_n 1, 1) := by decide +kernel
theorem dX0_dealsBehind_34 : decode cX0_dealsBehind 34 = .ok (.invokevirtual 103, 3) := by decide +kernel
theorem dX0_dealsBehind_37 : decode cX0_dealsBehind 37 = .ok (.isub, 1) := by decide +kernel
theorem dX0_dealsBehind_38 : decode cX0_dealsBehind 38 = .ok (.istore 5, 2) := by decide +kernel
theorem dX0_dealsBehind_40 : decode cX0_dealsBehind 40 = .ok (.aload_n 0, 1) := by decide +kernel
theorem dX0_dealsBehind_41 : decode cX0_dealsBehind 41 = .ok (.getfield 15, 3) := by decide +kernel
theorem dX0_dealsBehind_44 : decode cX0_dealsBehind 44 = .ok (.iload 4, 2) := by decide +kernel
theorem dX0_dealsBehind_46 : decode cX0_dealsBehind 46 = .ok (.iload 4, 2) := by decide +kernel
theorem dX0_dealsBehind_48 : decode cX0_dealsBehind 48 = .ok (.iload_n 3, 1) := by decide +kernel
theorem dX0_dealsBehind_49 : decode cX0_dealsBehind 49 = .ok (.if_icmp .ge 19, 3) := by decide +kernel
theorem dX0_dealsBehind_52 : decode cX0_dealsBehind 52 = .ok (.iconst 1, 1) := by decide +kernel
theorem dX0_dealsBehind_53 : decode cX0_dealsBehind 53 = .ok (.aload_n 0, 1) := by decide +kernel
theorem dX0_dealsBehind_54 : decode cX0_dealsBehind 54 = .ok (.iconst 1, 1) := by decide +kernel
theorem dX0_dealsBehind_55 : decode cX0_dealsBehind 55 = .ok (.iload 4, 2) := by decide +kernel
theorem dX0_dealsBehind_57 : decode cX0_dealsBehind 57 = .ok (.ishl, 1) := by decide +kernel
theorem dX0_dealsBehind_58 : decode cX0_dealsBehind 58 = .ok (.iload_n 1, 1) := by decide +kernel
theorem dX0_dealsBehind_59 : decode cX0_dealsBehind 59 = .ok (.invokevirtual 103, 3) := by decide +kernel
theorem dX0_dealsBehind_62 : decode cX0_dealsBehind 62 = .ok (.invokestatic 86, 3) := by decide +kernel
theorem dX0_dealsBehind_65 : decode cX0_dealsBehind 65 = .ok (.goto 4, 3) := by decide +kernel
theorem dX0_dealsBehind_68 : decode cX0_dealsBehind 68 = .ok (.iconst 0, 1) := by decide +kernel
theorem dX0_dealsBehind_69 : decode cX0_dealsBehind 69 = .ok (.iastore, 1) := by decide +kernel
theorem dX0_dealsBehind_70 : decode cX0_dealsBehind 70 = .ok (.aload_n 0, 1) := by decide +kernel
theorem dX0_dealsBehind_71 : decode cX0_dealsBehind 71 = .ok (.getfield 18, 3) := by decide +kernel
theorem dX0_dealsBehind_74 : decode cX0_dealsBehind 74 = .ok (.iload 4, 2) := by decide +kernel
theorem dX0_dealsBehind_76 : decode cX0_dealsBehind 76 = .ok (.iload 4, 2) := by decide +kernel
theorem dX0_dealsBehind_78 : decode cX0_dealsBehind 78 = .ok (.iload_n 3, 1) := by decide +kernel
theorem dX0_dealsBehind_79 : decode cX0_dealsBehind 79 = .ok (.if_icmp .ge 8, 3) := by decide +kernel
theorem dX0_dealsBehind_82 : decode cX0_dealsBehind 82 = .ok (.iload 5, 2) := by decide +kernel
theorem dX0_dealsBehind_84 : decode cX0_dealsBehind 84 = .ok (.goto 9, 3) := by decide +kernel
theorem dX0_dealsBehind_87 : decode cX0_dealsBehind 87 = .ok (.iconst 0, 1) := by decide +kernel
theorem dX0_dealsBehind_88 : decode cX0_dealsBehind 88 = .ok (.iload 5, 2) := by decide +kernel
theorem dX0_dealsBehind_90 : decode cX0_dealsBehind 90 = .ok (.invokestatic 106, 3) := by decide +kernel
theorem dX0_dealsBehind_93 : decode cX0_dealsBehind 93 = .ok (.iastore, 1) := by decide +kernel
theorem dX0_dealsBehind_94 : decode cX0_dealsBehind 94 = .ok (.aload_n 0, 1) := by decide +kernel
theorem dX0_dealsBehind_95 : decode cX0_dealsBehind 95 = .ok (.getfield 15, 3) := by decide +kernel
theorem dX0_dealsBehind_98 : decode cX0_dealsBehind 98 = .ok (.iload 4, 2) := by decide +kernel
theorem dX0_dealsBehind_100 : decode cX0_dealsBehind 100 = .ok (.iaload, 1) := by decide +kernel
theorem dX0_dealsBehind_101 : decode cX0_dealsBehind 101 = .ok (.aload_n 0, 1) := by decide +kernel
theorem dX0_dealsBehind_102 : decode cX0_dealsBehind 102 = .ok (.getfield 18, 3) := by decide +kernel
theorem dX0_dealsBehind_105 : decode cX0_dealsBehind 105 = .ok (.iload 4, 2) := by decide +kernel
theorem dX0_dealsBehind_107 : decode cX0_dealsBehind 107 = .ok (.iaload, 1) := by decide +kernel
theorem dX0_dealsBehind_108 : decode cX0_dealsBehind 108 = .ok (.if_icmp .le 5, 3) := by decide +kernel
theorem dX0_dealsBehind_111 : decode cX0_dealsBehind 111 = .ok (.iconst 0, 1) := by decide +kernel
theorem dX0_dealsBehind_112 : decode cX0_dealsBehind 112 = .ok (.ireturn, 1) := by decide +kernel
theorem dX0_dealsBehind_113 : decode cX0_dealsBehind 113 = .ok (.iinc 4 1, 3) := by decide +kernel
theorem dX0_dealsBehind_116 : decode cX0_dealsBehind 116 = .ok (.goto (-100), 3) := by decide +kernel
theorem dX0_dealsBehind_119 : decode cX0_dealsBehind 119 = .ok (.aload_n 0, 1) := by decide +kernel
theorem dX0_dealsBehind_120 : decode cX0_dealsBehind 120 = .ok (.getfield 15, 3) := by decide +kernel
theorem dX0_dealsBehind_123 : decode cX0_dealsBehind 123 = .ok (.iconst 1, 1) := by decide +kernel
theorem dX0_dealsBehind_124 : decode cX0_dealsBehind 124 = .ok (.iaload, 1) := by decide +kernel
theorem dX0_dealsBehind_125 : decode cX0_dealsBehind 125 = .ok (.aload_n 0, 1) := by decide +kernel
theorem dX0_dealsBehind_126 : decode cX0_dealsBehind 126 = .ok (.getfield 15, 3) := by decide +kernel
theorem dX0_dealsBehind_129 : decode cX0_dealsBehind 129 = .ok (.iconst 2, 1) := by decide +kernel
theorem dX0_dealsBehind_130 : decode cX0_dealsBehind 130 = .ok (.iaload, 1) := by decide +kernel
theorem dX0_dealsBehind_131 : decode cX0_dealsBehind 131 = .ok (.iadd, 1) := by decide +kernel
theorem dX0_dealsBehind_132 : decode cX0_dealsBehind 132 = .ok (.aload_n 0, 1) := by decide +kernel
theorem dX0_dealsBehind_133 : decode cX0_dealsBehind 133 = .ok (.getfield 15, 3) := by decide +kernel
theorem dX0_dealsBehind_136 : decode cX0_dealsBehind 136 = .ok (.iconst 3, 1) := by decide +kernel
theorem dX0_dealsBehind_137 : decode cX0_dealsBehind 137 = .ok (.iaload, 1) := by decide +kernel
theorem dX0_dealsBehind_138 : decode cX0_dealsBehind 138 = .ok (.iadd, 1) := by decide +kernel
theorem dX0_dealsBehind_139 : decode cX0_dealsBehind 139 = .ok (.iload_n 2, 1) := by decide +kernel
theorem dX0_dealsBehind_140 : decode cX0_dealsBehind 140 = .ok (.if_icmp .gt 27, 3) := by decide +kernel
theorem dX0_dealsBehind_143 : decode cX0_dealsBehind 143 = .ok (.aload_n 0, 1) := by decide +kernel
theorem dX0_dealsBehind_144 : decode cX0_dealsBehind 144 = .ok (.getfield 18, 3) := by decide +kernel
theorem dX0_dealsBehind_147 : decode cX0_dealsBehind 147 = .ok (.iconst 1, 1) := by decide +kernel
theorem dX0_dealsBehind_148 : decode cX0_dealsBehind 148 = .ok (.iaload, 1) := by decide +kernel
theorem dX0_dealsBehind_149 : decode cX0_dealsBehind 149 = .ok (.aload_n 0, 1) := by decide +kernel
theorem dX0_dealsBehind_150 : decode cX0_dealsBehind 150 = .ok (.getfield 18, 3) := by decide +kernel
theorem dX0_dealsBehind_153 : decode cX0_dealsBehind 153 = .ok (.iconst 2, 1) := by decide +kernel
theorem dX0_dealsBehind_154 : decode cX0_dealsBehind 154 = .ok (.iaload, 1) := by decide +kernel
theorem dX0_dealsBehind_155 : decode cX0_dealsBehind 155 = .ok (.iadd, 1) := by decide +kernel
theorem dX0_dealsBehind_156 : decode cX0_dealsBehind 156 = .ok (.aload_n 0, 1) := by decide +kernel
theorem dX0_dealsBehind_157 : decode cX0_dealsBehind 157 = .ok (.getfield 18, 3) := by decide +kernel
theorem dX0_dealsBehind_160 : decode cX0_dealsBehind 160 = .ok (.iconst 3, 1) := by decide +kernel
theorem dX0_dealsBehind_161 : decode cX0_dealsBehind 161 = .ok (.iaload, 1) := by decide +kernel
theorem dX0_dealsBehind_162 : decode cX0_dealsBehind 162 = .ok (.iadd, 1) := by decide +kernel
theorem dX0_dealsBehind_163 : decode cX0_dealsBehind 163 = .ok (.iload_n 2, 1) := by decide +kernel
theorem dX0_dealsBehind_164 : decode cX0_dealsBehind 164 = .ok (.if_icmp .ge 5, 3) := by decide +kernel
theorem dX0_dealsBehind_167 : decode cX0_dealsBehind 167 = .ok (.iconst 0, 1) := by decide +kernel
theorem dX0_dealsBehind_168 : decode cX0_dealsBehind 168 = .ok (.ireturn, 1) := by decide +kernel
theorem dX0_dealsBehind_169 : decode cX0_dealsBehind 169 = .ok (.aload_n 0, 1) := by decide +kernel
theorem dX0_dealsBehind_170 : decode cX0_dealsBehind 170 = .ok (.getfield 21, 3) := by decide +kernel
theorem dX0_dealsBehind_173 : decode cX0_dealsBehind 173 = .ok (.iconst 1, 1) := by decide +kernel
theorem dX0_dealsBehind_174 : decode cX0_dealsBehind 174 = .ok (.aload_n 0, 1) := by decide +kernel
theorem dX0_dealsBehind_175 : decode cX0_dealsBehind 175 = .ok (.getfield 15, 3) := by decide +kernel
theorem dX0_dealsBehind_178 : decode cX0_dealsBehind 178 = .ok (.iconst 1, 1) := by decide +kernel
theorem dX0_dealsBehind_179 : decode cX0_dealsBehind 179 = .ok (.iaload, 1) := by decide +kernel
theorem dX0_dealsBehind_180 : decode cX0_dealsBehind 180 = .ok (.iload_n 2, 1) := by decide +kernel
theorem dX0_dealsBehind_181 : decode cX0_dealsBehind 181 = .ok (.aload_n 0, 1) := by decide +kernel
theorem dX0_dealsBehind_182 : decode cX0_dealsBehind 182 = .ok (.getfield 18, 3) := by decide +kernel
theorem dX0_dealsBehind_185 : decode cX0_dealsBehind 185 = .ok (.iconst 2, 1) := by decide +kernel
theorem dX0_dealsBehind_186 : decode cX0_dealsBehind 186 = .ok (.iaload, 1) := by decide +kernel
theorem dX0_dealsBehind_187 : decode cX0_dealsBehind 187 = .ok (.isub, 1) := by decide +kernel
theorem dX0_dealsBehind_188 : decode cX0_dealsBehind 188 = .ok (.aload_n 0, 1) := by decide +kernel
theorem dX0_dealsBehind_189 : decode cX0_dealsBehind 189 = .ok (.getfield 18, 3) := by decide +kernel
theorem dX0_dealsBehind_192 : decode cX0_dealsBehind 192 = .ok (.iconst 3, 1) := by decide +kernel
theorem dX0_dealsBehind_193 : decode cX0_dealsBehind 193 = .ok (.iaload, 1) := by decide +kernel
theorem dX0_dealsBehind_194 : decode cX0_dealsBehind 194 = .ok (.isub, 1) := by decide +kernel
theorem dX0_dealsBehind_195 : decode cX0_dealsBehind 195 = .ok (.invokestatic 86, 3) := by decide +kernel
theorem dX0_dealsBehind_198 : decode cX0_dealsBehind 198 = .ok (.iastore, 1) := by decide +kernel
theorem dX0_dealsBehind_199 : decode cX0_dealsBehind 199 = .ok (.aload_n 0, 1) := by decide +kernel
theorem dX0_dealsBehind_200 : decode cX0_dealsBehind 200 = .ok (.getfield 21, 3) := by decide +kernel
theorem dX0_dealsBehind_203 : decode cX0_dealsBehind 203 = .ok (.iconst 2, 1) := by decide +kernel
theorem dX0_dealsBehind_204 : decode cX0_dealsBehind 204 = .ok (.aload_n 0, 1) := by decide +kernel
theorem dX0_dealsBehind_205 : decode cX0_dealsBehind 205 = .ok (.getfield 15, 3) := by decide +kernel
theorem dX0_dealsBehind_208 : decode cX0_dealsBehind 208 = .ok (.iconst 2, 1) := by decide +kernel
theorem dX0_dealsBehind_209 : decode cX0_dealsBehind 209 = .ok (.iaload, 1) := by decide +kernel
theorem dX0_dealsBehind_210 : decode cX0_dealsBehind 210 = .ok (.iload_n 2, 1) := by decide +kernel
theorem dX0_dealsBehind_211 : decode cX0_dealsBehind 211 = .ok (.aload_n 0, 1) := by decide +kernel
theorem dX0_dealsBehind_212 : decode cX0_dealsBehind 212 = .ok (.getfield 21, 3) := by decide +kernel
theorem dX0_dealsBehind_215 : decode cX0_dealsBehind 215 = .ok (.iconst 1, 1) := by decide +kernel
theorem dX0_dealsBehind_216 : decode cX0_dealsBehind 216 = .ok (.iaload, 1) := by decide +kernel
theorem dX0_dealsBehind_217 : decode cX0_dealsBehind 217 = .ok (.isub, 1) := by decide +kernel
theorem dX0_dealsBehind_218 : decode cX0_dealsBehind 218 = .ok (.aload_n 0, 1) := by decide +kernel
theorem dX0_dealsBehind_219 : decode cX0_dealsBehind 219 = .ok (.getfield 18, 3) := by decide +kernel
theorem dX0_dealsBehind_222 : decode cX0_dealsBehind 222 = .ok (.iconst 3, 1) := by decide +kernel
theorem dX0_dealsBehind_223 : decode cX0_dealsBehind 223 = .ok (.iaload, 1) := by decide +kernel
theorem dX0_dealsBehind_224 : decode cX0_dealsBehind 224 = .ok (.isub, 1) := by decide +kernel
theorem dX0_dealsBehind_225 : decode cX0_dealsBehind 225 = .ok (.invokestatic 86, 3) := by decide +kernel
theorem dX0_dealsBehind_228 : decode cX0_dealsBehind 228 = .ok (.iastore, 1) := by decide +kernel
theorem dX0_dealsBehind_229 : decode cX0_dealsBehind 229 = .ok (.aload_n 0, 1) := by decide +kernel
theorem dX0_dealsBehind_230 : decode cX0_dealsBehind 230 = .ok (.getfield 21, 3) := by decide +kernel
theorem dX0_dealsBehind_233 : decode cX0_dealsBehind 233 = .ok (.iconst 3, 1) := by decide +kernel
theorem dX0_dealsBehind_234 : decode cX0_dealsBehind 234 = .ok (.iload_n 2, 1) := by decide +kernel
theorem dX0_dealsBehind_235 : decode cX0_dealsBehind 235 = .ok (.aload_n 0, 1) := by decide +kernel
theorem dX0_dealsBehind_236 : decode cX0_dealsBehind 236 = .ok (.getfield 21, 3) := by decide +kernel
theorem dX0_dealsBehind_239 : decode cX0_dealsBehind 239 = .ok (.iconst 1, 1) := by decide +kernel
theorem dX0_dealsBehind_240 : decode cX0_dealsBehind 240 = .ok (.iaload, 1) := by decide +kernel
theorem dX0_dealsBehind_241 : decode cX0_dealsBehind 241 = .ok (.isub, 1) := by decide +kernel
theorem dX0_dealsBehind_242 : decode cX0_dealsBehind 242 = .ok (.aload_n 0, 1) := by decide +kernel
theorem dX0_dealsBehind_243 : decode cX0_dealsBehind 243 = .ok (.getfield 21, 3) := by decide +kernel
theorem dX0_dealsBehind_246 : decode cX0_dealsBehind 246 = .ok (.iconst 2, 1) := by decide +kernel
theorem dX0_dealsBehind_247 : decode cX0_dealsBehind 247 = .ok (.iaload, 1) := by decide +kernel
theorem dX0_dealsBehind_248 : decode cX0_dealsBehind 248 = .ok (.isub, 1) := by decide +kernel
theorem dX0_dealsBehind_249 : decode cX0_dealsBehind 249 = .ok (.iastore, 1) := by decide +kernel
theorem dX0_dealsBehind_250 : decode cX0_dealsBehind 250 = .ok (.iconst 1, 1) := by decide +kernel
theorem dX0_dealsBehind_251 : decode cX0_dealsBehind 251 = .ok (.ireturn, 1) := by decide +kernel
theorem dX0_needBeside_0 : decode cX0_needBeside 0 = .ok (.aload_n 0, 1) := by decide +kernel
theorem dX0_needBeside_1 : decode cX0_needBeside 1 = .ok (.getfield 9, 3) := by decide +kernel
theorem dX0_needBeside_4 : decode cX0_needBeside 4 = .ok (.iload_n 1, 1) := by decide +kernel
theorem dX0_needBeside_5 : decode cX0_needBeside 5 = .ok (.iaload, 1) := by decide +kernel
theorem dX0_needBeside_6 : decode cX0_needBeside 6 = .ok (.aload_n 0, 1) := by decide +kernel
theorem dX0_needBeside_7 : decode cX0_needBeside 7 = .ok (.getfield 9, 3) := by decide +kernel
theorem dX0_needBeside_10 : decode cX0_needBeside 10 = .ok (.iload_n 1, 1) := by decide +kernel
theorem dX0_needBeside_11 : decode cX0_needBeside 11 = .ok (.iconst 1, 1) := by decide +kernel
theorem dX0_needBeside_12 : decode cX0_needBeside 12 = .ok (.ior, 1) := by decide +kernel
theorem dX0_needBeside_13 : decode cX0_needBeside 13 = .ok (.iaload, 1) := by decide +kernel
theorem dX0_needBeside_14 : decode cX0_needBeside 14 = .ok (.iload_n 2, 1) := by decide +kernel
theorem dX0_needBeside_15 : decode cX0_needBeside 15 = .ok (.isub, 1) := by decide +kernel
theorem dX0_needBeside_16 : decode cX0_needBeside 16 = .ok (.invokestatic 86, 3) := by decide +kernel
theorem dX0_needBeside_19 : decode cX0_needBeside 19 = .ok (.ireturn, 1) := by decide +kernel
theorem dX1_init_0 : decode cX1_init 0 = .ok (.aload_n 0, 1) := by decide +kernel
theorem dX1_init_1 : decode cX1_init 1 = .ok (.invokespecial 3, 3) := by decide +kernel
theorem dX1_init_4 : decode cX1_init 4 = .ok (.aload_n 0, 1) := by decide +kernel
theorem dX1_init_5 : decode cX1_init 5 = .ok (.bipush 8, 2) := by decide +kernel
theorem dX1_init_7 : decode cX1_init 7 = .ok (.anewarray 9, 3) := by decide +kernel
theorem dX1_init_10 : decode cX1_init 10 = .ok (.putfield 11, 3) := by decide +kernel
theorem dX1_init_13 : decode cX1_init 13 = .ok (.aload_n 0, 1) := by decide +kernel
theorem dX1_init_14 : decode cX1_init 14 = .ok (.bipush 64, 2) := by decide +kernel
theorem dX1_init_16 : decode cX1_init 16 = .ok (.newarray .int, 2) := by decide +kernel
theorem dX1_init_18 : decode cX1_init 18 = .ok (.putfield 17, 3) := by decide +kernel
theorem dX1_init_21 : decode cX1_init 21 = .ok (.aload_n 0, 1) := by decide +kernel
theorem dX1_init_22 : decode cX1_init 22 = .ok (.bipush 8, 2) := by decide +kernel
theorem dX1_init_24 : decode cX1_init 24 = .ok (.newarray .int, 2) := by decide +kernel
theorem dX1_init_26 : decode cX1_init 26 = .ok (.putfield 21, 3) := by decide +kernel
theorem dX1_init_29 : decode cX1_init 29 = .ok (.aload_n 0, 1) := by decide +kernel
theorem dX1_init_30 : decode cX1_init 30 = .ok (.bipush 8, 2) := by decide +kernel
theorem dX1_init_32 : decode cX1_init 32 = .ok (.newarray .int, 2) := by decide +kernel
theorem dX1_init_34 : decode cX1_init 34 = .ok (.putfield 24, 3) := by decide +kernel
theorem dX1_init_37 : decode cX1_init 37 = .ok (.aload_n 0, 1) := by decide +kernel
theorem dX1_init_38 : decode cX1_init 38 = .ok (.sipush 200, 3) := by decide +kernel
theorem dX1_init_41 : decode cX1_init 41 = .ok (.newarray .int, 2) := by decide +kernel
theorem dX1_init_43 : decode cX1_init 43 = .ok (.putfield 27, 3) := by decide +kernel
theorem dX1_init_46 : decode cX1_init 46 = .ok (.return_, 1) := by decide +kernel
theorem dX1_add_0 : decode cX1_add 0 = .ok (.aload_n 0, 1) := by decide +kernel
theorem dX1_add_1 : decode cX1_add 1 = .ok (.getfield 11, 3) := by decide +kernel
theorem dX1_add_4 : decode cX1_add 4 = .ok (.aload_n 0, 1) := by decide +kernel
theorem dX1_add_5 : decode cX1_add 5 = .ok (.getfield 30, 3) := by decide +kernel
theorem dX1_add_8 : decode cX1_add 8 = .ok (.aload_n 1, 1) := by decide +kernel
theorem dX1_add_9 : decode cX1_add 9 = .ok (.aastore, 1) := by decide +kernel
theorem dX1_add_10 : decode cX1_add 10 = .ok (.aload_n 0, 1) := by decide +kernel
theorem dX1_add_11 : decode cX1_add 11 = .ok (.dup, 1) := by decide +kernel
theorem dX1_add_12 : decode cX1_add 12 = .ok (.getfield 30, 3) := by decide +kernel
theorem dX1_add_15 : decode cX1_add 15 = .ok (.iconst 1, 1) := by decide +kernel
theorem dX1_add_16 : decode cX1_add 16 = .ok (.iadd, 1) := by decide +kernel
theorem dX1_add_17 : decode cX1_add 17 = .ok (.putfield 30, 3) := by decide +kernel
theorem dX1_add_20 : decode cX1_add 20 = .ok (.aload_n 0, 1) := by decide +kernel
theorem dX1_add_21 : decode cX1_add 21 = .ok (.getfield 30, 3) := by decide +kernel
theorem dX1_add_24 : decode cX1_add 24 = .ok (.iconst 1, 1) := by decide +kernel
theorem dX1_add_25 : decode cX1_add 25 = .ok (.isub, 1) := by decide +kernel
theorem dX1_add_26 : decode cX1_add 26 = .ok (.ireturn, 1) := by decide +kernel
theorem dX1_member_0 : decode cX1_member 0 = .ok (.iload_n 1, 1) := by decide +kernel
theorem dX1_member_1 : decode cX1_member 1 = .ok (.ifCond .lt 11, 3) := by decide +kernel
theorem dX1_member_4 : decode cX1_member 4 = .ok (.iload_n 1, 1) := by decide +kernel
theorem dX1_member_5 : decode cX1_member 5 = .ok (.aload_n 0, 1) := by decide +kernel
theorem dX1_member_6 : decode cX1_member 6 = .ok (.getfield 30, 3) := by decide +kernel
theorem dX1_member_9 : decode cX1_member 9 = .ok (.if_icmp .lt 7, 3) := by decide +kernel
theorem dX1_member_12 : decode cX1_member 12 = .ok (.aconst_null, 1) := by decide +kernel
theorem dX1_member_13 : decode cX1_member 13 = .ok (.goto 9, 3) := by decide +kernel
theorem dX1_member_16 : decode cX1_member 16 = .ok (.aload_n 0, 1) := by decide +kernel
theorem dX1_member_17 : decode cX1_member 17 = .ok (.getfield 11, 3) := by decide +kernel
theorem dX1_member_20 : decode cX1_member 20 = .ok (.iload_n 1, 1) := by decide +kernel
theorem dX1_member_21 : decode cX1_member 21 = .ok (.aaload, 1) := by decide +kernel
theorem dX1_member_22 : decode cX1_member 22 = .ok (.areturn, 1) := by decide +kernel
theorem dX1_hasPlan_0 : decode cX1_hasPlan 0 = .ok (.aload_n 0, 1) := by decide +kernel
theorem dX1_hasPlan_1 : decode cX1_hasPlan 1 = .ok (.getfield 34, 3) := by decide +kernel
theorem dX1_hasPlan_4 : decode cX1_hasPlan 4 = .ok (.ifnonnull 10, 3) := by decide +kernel
theorem dX1_hasPlan_7 : decode cX1_hasPlan 7 = .ok (.aload_n 0, 1) := by decide +kernel
theorem dX1_hasPlan_8 : decode cX1_hasPlan 8 = .ok (.getfield 38, 3) := by decide +kernel
theorem dX1_hasPlan_11 : decode cX1_hasPlan 11 = .ok (.ifnull 7, 3) := by decide +kernel
theorem dX1_hasPlan_14 : decode cX1_hasPlan 14 = .ok (.iconst 1, 1) := by decide +kernel
theorem dX1_hasPlan_15 : decode cX1_hasPlan 15 = .ok (.goto 4, 3) := by decide +kernel
theorem dX1_hasPlan_18 : decode cX1_hasPlan 18 = .ok (.iconst 0, 1) := by decide +kernel
theorem dX1_hasPlan_19 : decode cX1_hasPlan 19 = .ok (.ireturn, 1) := by decide +kernel
theorem dX1_oppose_0 : decode cX1_oppose 0 = .ok (.aload_n 0, 1) := by decide +kernel
theorem dX1_oppose_1 : decode cX1_oppose 1 = .ok (.getfield 17, 3) := by decide +kernel
theorem dX1_oppose_4 : decode cX1_oppose 4 = .ok (.iload_n 1, 1) := by decide +kernel
theorem dX1_oppose_5 : decode cX1_oppose 5 = .ok (.bipush 8, 2) := by decide +kernel
theorem dX1_oppose_7 : decode cX1_oppose 7 = .ok (.imul, 1) := by decide +kernel
theorem dX1_oppose_8 : decode cX1_oppose 8 = .ok (.iload_n 2, 1) := by decide +kernel
theorem dX1_oppose_9 : decode cX1_oppose 9 = .ok (.iadd, 1) := by decide +kernel
theorem dX1_oppose_10 : decode cX1_oppose 10 = .ok (.iload_n 3, 1) := by decide +kernel
theorem dX1_oppose_11 : decode cX1_oppose 11 = .ok (.iastore, 1) := by decide +kernel
theorem dX1_oppose_12 : decode cX1_oppose 12 = .ok (.aload_n 0, 1) := by decide +kernel
theorem dX1_oppose_13 : decode cX1_oppose 13 = .ok (.getfield 17, 3) := by decide +kernel
theorem dX1_oppose_16 : decode cX1_oppose 16 = .ok (.iload_n 2, 1) := by decide +kernel
theorem dX1_oppose_17 : decode cX1_oppose 17 = .ok (.bipush 8, 2) := by decide +kernel
theorem dX1_oppose_19 : decode cX1_oppose 19 = .ok (.imul, 1) := by decide +kernel
theorem dX1_oppose_20 : decode cX1_oppose 20 = .ok (.iload_n 1, 1) := by decide +kernel
theorem dX1_oppose_21 : decode cX1_oppose 21 = .ok (.iadd, 1) := by decide +kernel
theorem dX1_oppose_22 : decode cX1_oppose 22 = .ok (.iload 4, 2) := by decide +kernel
theorem dX1_oppose_24 : decode cX1_oppose 24 = .ok (.iastore, 1) := by decide +kernel
theorem dX1_oppose_25 : decode cX1_oppose 25 = .ok (.aload_n 0, 1) := by decide +kernel
theorem dX1_oppose_26 : decode cX1_oppose 26 = .ok (.getfield 21, 3) := by decide +kernel
theorem dX1_oppose_29 : decode cX1_oppose 29 = .ok (.iload_n 1, 1) := by decide +kernel
theorem dX1_oppose_30 : decode cX1_oppose 30 = .ok (.iaload, 1) := by decide +kernel
theorem dX1_oppose_31 : decode cX1_oppose 31 = .ok (.iload_n 2, 1) := by decide +kernel
theorem dX1_oppose_32 : decode cX1_oppose 32 = .ok (.ishr, 1) := by decide +kernel
theorem dX1_oppose_33 : decode cX1_oppose 33 = .ok (.iconst 1, 1) := by decide +kernel
theorem dX1_oppose_34 : decode cX1_oppose 34 = .ok (.iand, 1) := by decide +kernel
theorem dX1_oppose_35 : decode cX1_oppose 35 = .ok (.ifCond .ne 40, 3) := by decide +kernel
theorem dX1_oppose_38 : decode cX1_oppose 38 = .ok (.aload_n 0, 1) := by decide +kernel
theorem dX1_oppose_39 : decode cX1_oppose 39 = .ok (.getfield 21, 3) := by decide +kernel
theorem dX1_oppose_42 : decode cX1_oppose 42 = .ok (.iload_n 2, 1) := by decide +kernel
theorem dX1_oppose_43 : decode cX1_oppose 43 = .ok (.iaload, 1) := by decide +kernel
theorem dX1_oppose_44 : decode cX1_oppose 44 = .ok (.iload_n 1, 1) := by decide +kernel
theorem dX1_oppose_45 : decode cX1_oppose 45 = .ok (.ishr, 1) := by decide +kernel
theorem dX1_oppose_46 : decode cX1_oppose 46 = .ok (.iconst 1, 1) := by decide +kernel
theorem dX1_oppose_47 : decode cX1_oppose 47 = .ok (.iand, 1) := by decide +kernel
theorem dX1_oppose_48 : decode cX1_oppose 48 = .ok (.ifCond .ne 27, 3) := by decide +kernel
theorem dX1_oppose_51 : decode cX1_oppose 51 = .ok (.aload_n 0, 1) := by decide +kernel
theorem dX1_oppose_52 : decode cX1_oppose 52 = .ok (.getfield 24, 3) := by decide +kernel
theorem dX1_oppose_55 : decode cX1_oppose 55 = .ok (.iload_n 1, 1) := by decide +kernel
theorem dX1_oppose_56 : decode cX1_oppose 56 = .ok (.dup2, 1) := by decide +kernel
theorem dX1_oppose_57 : decode cX1_oppose 57 = .ok (.iaload, 1) := by decide +kernel
theorem dX1_oppose_58 : decode cX1_oppose 58 = .ok (.iconst 1, 1) := by decide +kernel
theorem dX1_oppose_59 : decode cX1_oppose 59 = .ok (.iload_n 2, 1) := by decide +kernel
theorem dX1_oppose_60 : decode cX1_oppose 60 = .ok (.ishl, 1) := by decide +kernel
theorem dX1_oppose_61 : decode cX1_oppose 61 = .ok (.ior, 1) := by decide +kernel
theorem dX1_oppose_62 : decode cX1_oppose 62 = .ok (.iastore, 1) := by decide +kernel
theorem dX1_oppose_63 : decode cX1_oppose 63 = .ok (.aload_n 0, 1) := by decide +kernel
theorem dX1_oppose_64 : decode cX1_oppose 64 = .ok (.getfield 24, 3) := by decide +kernel
theorem dX1_oppose_67 : decode cX1_oppose 67 = .ok (.iload_n 2, 1) := by decide +kernel
theorem dX1_oppose_68 : decode cX1_oppose 68 = .ok (.dup2, 1) := by decide +kernel
theorem dX1_oppose_69 : decode cX1_oppose 69 = .ok (.iaload, 1) := by decide +kernel
theorem dX1_oppose_70 : decode cX1_oppose 70 = .ok (.iconst 1, 1) := by decide +kernel
theorem dX1_oppose_71 : decode cX1_oppose 71 = .ok (.iload_n 1, 1) := by decide +kernel
theorem dX1_oppose_72 : decode cX1_oppose 72 = .ok (.ishl, 1) := by decide +kernel
theorem dX1_oppose_73 : decode cX1_oppose 73 = .ok (.ior, 1) := by decide +kernel
theorem dX1_oppose_74 : decode cX1_oppose 74 = .ok (.iastore, 1) := by decide +kernel
theorem dX1_oppose_75 : decode cX1_oppose 75 = .ok (.return_, 1) := by decide +kernel
theorem dX1_mayYield_0 : decode cX1_mayYield 0 = .ok (.aload_n 0, 1) := by decide +kernel
theorem dX1_mayYield_1 : decode cX1_mayYield 1 = .ok (.iload_n 1, 1) := by decide +kernel
theorem dX1_mayYield_2 : decode cX1_mayYield 2 = .ok (.invokevirtual 41, 3) := by decide +kernel
theorem dX1_mayYield_5 : decode cX1_mayYield 5 = .ok (.astore_n 3, 1) := by decide +kernel
theorem dX1_mayYield_6 : decode cX1_mayYield 6 = .ok (.aload_n 0, 1) := by decide +kernel
theorem dX1_mayYield_7 : decode cX1_mayYield 7 = .ok (.iload_n 2, 1) := by decide +kernel
theorem dX1_mayYield_8 : decode cX1_mayYield 8 = .ok (.invokevirtual 41, 3) := by decide +kernel
theorem dX1_mayYield_11 : decode cX1_mayYield 11 = .ok (.astore 4, 2) := by decide +kernel
theorem dX1_mayYield_13 : decode cX1_mayYield 13 = .ok (.aload_n 3, 1) := by decide +kernel
theorem dX1_mayYield_14 : decode cX1_mayYield 14 = .ok (.ifnull 56, 3) := by decide +kernel
theorem dX1_mayYield_17 : decode cX1_mayYield 17 = .ok (.aload 4, 2) := by decide +kernel
theorem dX1_mayYield_19 : decode cX1_mayYield 19 = .ok (.ifnull 51, 3) := by decide +kernel
theorem dX1_mayYield_22 : decode cX1_mayYield 22 = .ok (.aload_n 3, 1) := by decide +kernel
theorem dX1_mayYield_23 : decode cX1_mayYield 23 = .ok (.getfield 45, 3) := by decide +kernel
theorem dX1_mayYield_26 : decode cX1_mayYield 26 = .ok (.iconst 1, 1) := by decide +kernel
theorem dX1_mayYield_27 : decode cX1_mayYield 27 = .ok (.if_icmp .ne 43, 3) := by decide +kernel
theorem dX1_mayYield_30 : decode cX1_mayYield 30 = .ok (.aload 4, 2) := by decide +kernel
theorem dX1_mayYield_32 : decode cX1_mayYield 32 = .ok (.getfield 45, 3) := by decide +kernel
theorem dX1_mayYield_35 : decode cX1_mayYield 35 = .ok (.iconst 1, 1) := by decide +kernel
theorem dX1_mayYield_36 : decode cX1_mayYield 36 = .ok (.if_icmp .eq 34, 3) := by decide +kernel
theorem dX1_mayYield_39 : decode cX1_mayYield 39 = .ok (.aload_n 0, 1) := by decide +kernel
theorem dX1_mayYield_40 : decode cX1_mayYield 40 = .ok (.getfield 17, 3) := by decide +kernel
theorem dX1_mayYield_43 : decode cX1_mayYield 43 = .ok (.iload_n 1, 1) := by decide +kernel
theorem dX1_mayYield_44 : decode cX1_mayYield 44 = .ok (.bipush 8, 2) := by decide +kernel
theorem dX1_mayYield_46 : decode cX1_mayYield 46 = .ok (.imul, 1) := by decide +kernel
theorem dX1_mayYield_47 : decode cX1_mayYield 47 = .ok (.iload_n 2, 1) := by decide +kernel
theorem dX1_mayYield_48 : decode cX1_mayYield 48 = .ok (.iadd, 1) := by decide +kernel
theorem dX1_mayYield_49 : decode cX1_mayYield 49 = .ok (.iaload, 1) := by decide +kernel
theorem dX1_mayYield_50 : decode cX1_mayYield 50 = .ok (.ifCond .eq 20, 3) := by decide +kernel
theorem dX1_mayYield_53 : decode cX1_mayYield 53 = .ok (.aload_n 0, 1) := by decide +kernel
theorem dX1_mayYield_54 : decode cX1_mayYield 54 = .ok (.getfield 21, 3) := by decide +kernel
theorem dX1_mayYield_57 : decode cX1_mayYield 57 = .ok (.iload_n 1, 1) := by decide +kernel
theorem dX1_mayYield_58 : decode cX1_mayYield 58 = .ok (.iaload, 1) := by decide +kernel
theorem dX1_mayYield_59 : decode cX1_mayYield 59 = .ok (.iload_n 2, 1) := by decide +kernel
theorem dX1_mayYield_60 : decode cX1_mayYield 60 = .ok (.ishr, 1) := by decide +kernel
theorem dX1_mayYield_61 : decode cX1_mayYield 61 = .ok (.iconst 1, 1) := by decide +kernel
theorem dX1_mayYield_62 : decode cX1_mayYield 62 = .ok (.iand, 1) := by decide +kernel
theorem dX1_mayYield_63 : decode cX1_mayYield 63 = .ok (.ifCond .ne 7, 3) := by decide +kernel
theorem dX1_mayYield_66 : decode cX1_mayYield 66 = .ok (.iconst 1, 1) := by decide +kernel
theorem dX1_mayYield_67 : decode cX1_mayYield 67 = .ok (.goto 4, 3) := by decide +kernel
theorem dX1_mayYield_70 : decode cX1_mayYield 70 = .ok (.iconst 0, 1) := by decide +kernel
theorem dX1_mayYield_71 : decode cX1_mayYield 71 = .ok (.ireturn, 1) := by decide +kernel
theorem dX1_giveWay_0 : decode cX1_giveWay 0 = .ok (.aload_n 0, 1) := by decide +kernel
theorem dX1_giveWay_1 : decode cX1_giveWay 1 = .ok (.getfield 21, 3) := by decide +kernel
theorem dX1_giveWay_4 : decode cX1_giveWay 4 = .ok (.iload_n 1, 1) := by decide +kernel
theorem dX1_giveWay_5 : decode cX1_giveWay 5 = .ok (.dup2, 1) := by decide +kernel
theorem dX1_giveWay_6 : decode cX1_giveWay 6 = .ok (.iaload, 1) := by decide +kernel
theorem dX1_giveWay_7 : decode cX1_giveWay 7 = .ok (.iconst 1, 1) := by decide +kernel
theorem dX1_giveWay_8 : decode cX1_giveWay 8 = .ok (.iload_n 2, 1) := by decide +kernel
theorem dX1_giveWay_9 : decode cX1_giveWay 9 = .ok (.ishl, 1) := by decide +kernel
theorem dX1_giveWay_10 : decode cX1_giveWay 10 = .ok (.ior, 1) := by decide +kernel
theorem dX1_giveWay_11 : decode cX1_giveWay 11 = .ok (.iastore, 1) := by decide +kernel
theorem dX1_giveWay_12 : decode cX1_giveWay 12 = .ok (.aload_n 0, 1) := by decide +kernel
theorem dX1_giveWay_13 : decode cX1_giveWay 13 = .ok (.getfield 24, 3) := by decide +kernel
theorem dX1_giveWay_16 : decode cX1_giveWay 16 = .ok (.iload_n 1, 1) := by decide +kernel
theorem dX1_giveWay_17 : decode cX1_giveWay 17 = .ok (.dup2, 1) := by decide +kernel
theorem dX1_giveWay_18 : decode cX1_giveWay 18 = .ok (.iaload, 1) := by decide +kernel
theorem dX1_giveWay_19 : decode cX1_giveWay 19 = .ok (.iconst 1, 1) := by decide +kernel
theorem dX1_giveWay_20 : decode cX1_giveWay 20 = .ok (.iload_n 2, 1) := by decide +kernel
theorem dX1_giveWay_21 : decode cX1_giveWay 21 = .ok (.ishl, 1) := by decide +kernel
theorem dX1_giveWay_22 : decode cX1_giveWay 22 = .ok (.iconst (-1), 1) := by decide +kernel
theorem dX1_giveWay_23 : decode cX1_giveWay 23 = .ok (.ixor, 1) := by decide +kernel
theorem dX1_giveWay_24 : decode cX1_giveWay 24 = .ok (.iand, 1) := by decide +kernel
theorem dX1_giveWay_25 : decode cX1_giveWay 25 = .ok (.iastore, 1) := by decide +kernel
theorem dX1_giveWay_26 : decode cX1_giveWay 26 = .ok (.aload_n 0, 1) := by decide +kernel
theorem dX1_giveWay_27 : decode cX1_giveWay 27 = .ok (.getfield 24, 3) := by decide +kernel
theorem dX1_giveWay_30 : decode cX1_giveWay 30 = .ok (.iload_n 2, 1) := by decide +kernel
theorem dX1_giveWay_31 : decode cX1_giveWay 31 = .ok (.dup2, 1) := by decide +kernel
theorem dX1_giveWay_32 : decode cX1_giveWay 32 = .ok (.iaload, 1) := by decide +kernel
theorem dX1_giveWay_33 : decode cX1_giveWay 33 = .ok (.iconst 1, 1) := by decide +kernel
theorem dX1_giveWay_34 : decode cX1_giveWay 34 = .ok (.iload_n 1, 1) := by decide +kernel
theorem dX1_giveWay_35 : decode cX1_giveWay 35 = .ok (.ishl, 1) := by decide +kernel
theorem dX1_giveWay_36 : decode cX1_giveWay 36 = .ok (.iconst (-1), 1) := by decide +kernel
theorem dX1_giveWay_37 : decode cX1_giveWay 37 = .ok (.ixor, 1) := by decide +kernel
theorem dX1_giveWay_38 : decode cX1_giveWay 38 = .ok (.iand, 1) := by decide +kernel
theorem dX1_giveWay_39 : decode cX1_giveWay 39 = .ok (.iastore, 1) := by decide +kernel
theorem dX1_giveWay_40 : decode cX1_giveWay 40 = .ok (.return_, 1) := by decide +kernel
theorem dX1_isSet_0 : decode cX1_isSet 0 = .ok (.iload_n 1, 1) := by decide +kernel
theorem dX1_isSet_1 : decode cX1_isSet 1 = .ok (.ifCond .lt 13, 3) := by decide +kernel
theorem dX1_isSet_4 : decode cX1_isSet 4 = .ok (.iload_n 1, 1) := by decide +kernel
theorem dX1_isSet_5 : decode cX1_isSet 5 = .ok (.iconst 1, 1) := by decide +kernel
theorem dX1_isSet_6 : decode cX1_isSet 6 = .ok (.aload_n 0, 1) := by decide +kernel
theorem dX1_isSet_7 : decode cX1_isSet 7 = .ok (.getfield 30, 3) := by decide +kernel
theorem dX1_isSet_10 : decode cX1_isSet 10 = .ok (.ishl, 1) := by decide +kernel
theorem dX1_isSet_11 : decode cX1_isSet 11 = .ok (.if_icmp .lt 5, 3) := by decide +kernel
theorem dX1_isSet_14 : decode cX1_isSet 14 = .ok (.iconst 0, 1) := by decide +kernel
theorem dX1_isSet_15 : decode cX1_isSet 15 = .ok (.ireturn, 1) := by decide +kernel
theorem dX1_isSet_16 : decode cX1_isSet 16 = .ok (.iconst 0, 1) := by decide +kernel
theorem dX1_isSet_17 : decode cX1_isSet 17 = .ok (.istore_n 2, 1) := by decide +kernel
theorem dX1_isSet_18 : decode cX1_isSet 18 = .ok (.iload_n 2, 1) := by decide +kernel
theorem dX1_isSet_19 : decode cX1_isSet 19 = .ok (.aload_n 0, 1) := by decide +kernel
theorem dX1_isSet_20 : decode cX1_isSet 20 = .ok (.getfield 30, 3) := by decide +kernel
theorem dX1_isSet_23 : decode cX1_isSet 23 = .ok (.if_icmp .ge 30, 3) := by decide +kernel
theorem dX1_isSet_26 : decode cX1_isSet 26 = .ok (.iload_n 1, 1) := by decide +kernel
theorem dX1_isSet_27 : decode cX1_isSet 27 = .ok (.iload_n 2, 1) := by decide +kernel
theorem dX1_isSet_28 : decode cX1_isSet 28 = .ok (.ishr, 1) := by decide +kernel
theorem dX1_isSet_29 : decode cX1_isSet 29 = .ok (.iconst 1, 1) := by decide +kernel
theorem dX1_isSet_30 : decode cX1_isSet 30 = .ok (.iand, 1) := by decide +kernel
theorem dX1_isSet_31 : decode cX1_isSet 31 = .ok (.ifCond .eq 16, 3) := by decide +kernel
theorem dX1_isSet_34 : decode cX1_isSet 34 = .ok (.aload_n 0, 1) := by decide +kernel
theorem dX1_isSet_35 : decode cX1_isSet 35 = .ok (.getfield 24, 3) := by decide +kernel
theorem dX1_isSet_38 : decode cX1_isSet 38 = .ok (.iload_n 2, 1) := by decide +kernel
theorem dX1_isSet_39 : decode cX1_isSet 39 = .ok (.iaload, 1) := by decide +kernel
theorem dX1_isSet_40 : decode cX1_isSet 40 = .ok (.iload_n 1, 1) := by decide +kernel
theorem dX1_isSet_41 : decode cX1_isSet 41 = .ok (.iand, 1) := by decide +kernel
theorem dX1_isSet_42 : decode cX1_isSet 42 = .ok (.ifCond .eq 5, 3) := by decide +kernel
theorem dX1_isSet_45 : decode cX1_isSet 45 = .ok (.iconst 0, 1) := by decide +kernel
theorem dX1_isSet_46 : decode cX1_isSet 46 = .ok (.ireturn, 1) := by decide +kernel
theorem dX1_isSet_47 : decode cX1_isSet 47 = .ok (.iinc 2 1, 3) := by decide +kernel
theorem dX1_isSet_50 : decode cX1_isSet 50 = .ok (.goto (-32), 3) := by decide +kernel
theorem dX1_isSet_53 : decode cX1_isSet 53 = .ok (.iconst 1, 1) := by decide +kernel
theorem dX1_isSet_54 : decode cX1_isSet 54 = .ok (.ireturn, 1) := by decide +kernel
theorem dX1_isGreatest_0 : decode cX1_isGreatest 0 = .ok (.iconst 0, 1) := by decide +kernel
theorem dX1_isGreatest_1 : decode cX1_isGreatest 1 = .ok (.istore_n 2, 1) := by decide +kernel
theorem dX1_isGreatest_2 : decode cX1_isGreatest 2 = .ok (.iload_n 2, 1) := by decide +kernel
theorem dX1_isGreatest_3 : decode cX1_isGreatest 3 = .ok (.aload_n 0, 1) := by decide +kernel
theorem dX1_isGreatest_4 : decode cX1_isGreatest 4 = .ok (.getfield 30, 3) := by decide +kernel
theorem dX1_isGreatest_7 : decode cX1_isGreatest 7 = .ok (.if_icmp .ge 45, 3) := by decide +kernel
theorem dX1_isGreatest_10 : decode cX1_isGreatest 10 = .ok (.iload_n 1, 1) := by decide +kernel
theorem dX1_isGreatest_11 : decode cX1_isGreatest 11 = .ok (.iload_n 2, 1) := by decide +kernel
theorem dX1_isGreatest_12 : decode cX1_isGreatest 12 = .ok (.ishr, 1) := by decide +kernel
theorem dX1_isGreatest_13 : decode cX1_isGreatest 13 = .ok (.iconst 1, 1) := by decide +kernel
theorem dX1_isGreatest_14 : decode cX1_isGreatest 14 = .ok (.iand, 1) := by decide +kernel
theorem dX1_isGreatest_15 : decode cX1_isGreatest 15 = .ok (.ifCond .eq 7, 3) := by decide +kernel
theorem dX1_isGreatest_18 : decode cX1_isGreatest 18 = .ok (.iconst 1, 1) := by decide +kernel
theorem dX1_isGreatest_19 : decode cX1_isGreatest 19 = .ok (.goto 4, 3) := by decide +kernel
theorem dX1_isGreatest_22 : decode cX1_isGreatest 22 = .ok (.iconst 0, 1) := by decide +kernel
theorem dX1_isGreatest_23 : decode cX1_isGreatest 23 = .ok (.istore_n 3, 1) := by decide +kernel
theorem dX1_isGreatest_24 : decode cX1_isGreatest 24 = .ok (.iload_n 3, 1) := by decide +kernel
theorem dX1_isGreatest_25 : decode cX1_isGreatest 25 = .ok (.aload_n 0, 1) := by decide +kernel
theorem dX1_isGreatest_26 : decode cX1_isGreatest 26 = .ok (.getfield 24, 3) := by decide +kernel
theorem dX1_isGreatest_29 : decode cX1_isGreatest 29 = .ok (.iload_n 2, 1) := by decide +kernel
theorem dX1_isGreatest_30 : decode cX1_isGreatest 30 = .ok (.iaload, 1) := by decide +kernel
theorem dX1_isGreatest_31 : decode cX1_isGreatest 31 = .ok (.iload_n 1, 1) := by decide +kernel
theorem dX1_isGreatest_32 : decode cX1_isGreatest 32 = .ok (.iand, 1) := by decide +kernel
theorem dX1_isGreatest_33 : decode cX1_isGreatest 33 = .ok (.ifCond .ne 7, 3) := by decide +kernel
theorem dX1_isGreatest_36 : decode cX1_isGreatest 36 = .ok (.iconst 1, 1) := by decide +kernel
theorem dX1_isGreatest_37 : decode cX1_isGreatest 37 = .ok (.goto 4, 3) := by decide +kernel
theorem dX1_isGreatest_40 : decode cX1_isGreatest 40 = .ok (.iconst 0, 1) := by decide +kernel
theorem dX1_isGreatest_41 : decode cX1_isGreatest 41 = .ok (.if_icmp .eq 5, 3) := by decide +kernel
theorem dX1_isGreatest_44 : decode cX1_isGreatest 44 = .ok (.iconst 0, 1) := by decide +kernel
theorem dX1_isGreatest_45 : decode cX1_isGreatest 45 = .ok (.ireturn, 1) := by decide +kernel
theorem dX1_isGreatest_46 : decode cX1_isGreatest 46 = .ok (.iinc 2 1, 3) := by decide +kernel
theorem dX1_isGreatest_49 : decode cX1_isGreatest 49 = .ok (.goto (-47), 3) := by decide +kernel
theorem dX1_isGreatest_52 : decode cX1_isGreatest 52 = .ok (.iconst 1, 1) := by decide +kernel
theorem dX1_isGreatest_53 : decode cX1_isGreatest 53 = .ok (.ireturn, 1) := by decide +kernel
theorem dX1_greatestSets_0 : decode cX1_greatestSets 0 = .ok (.iconst 0, 1) := by decide +kernel
theorem dX1_greatestSets_1 : decode cX1_greatestSets 1 = .ok (.istore_n 1, 1) := by decide +kernel
theorem dX1_greatestSets_2 : decode cX1_greatestSets 2 = .ok (.iconst 1, 1) := by decide +kernel
theorem dX1_greatestSets_3 : decode cX1_greatestSets 3 = .ok (.istore_n 2, 1) := by decide +kernel
theorem dX1_greatestSets_4 : decode cX1_greatestSets 4 = .ok (.iload_n 2, 1) := by decide +kernel
theorem dX1_greatestSets_5 : decode cX1_greatestSets 5 = .ok (.iconst 1, 1) := by decide +kernel
theorem dX1_greatestSets_6 : decode cX1_greatestSets 6 = .ok (.aload_n 0, 1) := by decide +kernel
theorem dX1_greatestSets_7 : decode cX1_greatestSets 7 = .ok (.getfield 30, 3) := by decide +kernel
theorem dX1_greatestSets_10 : decode cX1_greatestSets 10 = .ok (.ishl, 1) := by decide +kernel
theorem dX1_greatestSets_11 : decode cX1_greatestSets 11 = .ok (.if_icmp .ge 20, 3) := by decide +kernel
theorem dX1_greatestSets_14 : decode cX1_greatestSets 14 = .ok (.aload_n 0, 1) := by decide +kernel
theorem dX1_greatestSets_15 : decode cX1_greatestSets 15 = .ok (.iload_n 2, 1) := by decide +kernel
theorem dX1_greatestSets_16 : decode cX1_greatestSets 16 = .ok (.invokevirtual 48, 3) := by decide +kernel
theorem dX1_greatestSets_19 : decode cX1_greatestSets 19 = .ok (.ifCond .eq 6, 3) := by decide +kernel
theorem dX1_greatestSets_22 : decode cX1_greatestSets 22 = .ok (.iinc 1 1, 3) := by decide +kernel
theorem dX1_greatestSets_25 : decode cX1_greatestSets 25 = .ok (.iinc 2 1, 3) := by decide +kernel
theorem dX1_greatestSets_28 : decode cX1_greatestSets 28 = .ok (.goto (-24), 3) := by decide +kernel
theorem dX1_greatestSets_31 : decode cX1_greatestSets 31 = .ok (.iload_n 1, 1) := by decide +kernel
theorem dX1_greatestSets_32 : decode cX1_greatestSets 32 = .ok (.ireturn, 1) := by decide +kernel
theorem dX1_greatestSet_0 : decode cX1_greatestSet 0 = .ok (.iconst 0, 1) := by decide +kernel
theorem dX1_greatestSet_1 : decode cX1_greatestSet 1 = .ok (.istore_n 2, 1) := by decide +kernel
theorem dX1_greatestSet_2 : decode cX1_greatestSet 2 = .ok (.iconst 1, 1) := by decide +kernel
theorem dX1_greatestSet_3 : decode cX1_greatestSet 3 = .ok (.istore_n 3, 1) := by decide +kernel
theorem dX1_greatestSet_4 : decode cX1_greatestSet 4 = .ok (.iload_n 3, 1) := by decide +kernel
theorem dX1_greatestSet_5 : decode cX1_greatestSet 5 = .ok (.iconst 1, 1) := by decide +kernel
theorem dX1_greatestSet_6 : decode cX1_greatestSet 6 = .ok (.aload_n 0, 1) := by decide +kernel
theorem dX1_greatestSet_7 : decode cX1_greatestSet 7 = .ok (.getfield 30, 3) := by decide +kernel
theorem dX1_greatestSet_10 : decode cX1_greatestSet 10 = .ok (.ishl, 1) := by decide +kernel
theorem dX1_greatestSet_11 : decode cX1_greatestSet 11 = .ok (.if_icmp .ge 27, 3) := by decide +kernel
theorem dX1_greatestSet_14 : decode cX1_greatestSet 14 = .ok (.aload_n 0, 1) := by decide +kernel
theorem dX1_greatestSet_15 : decode cX1_greatestSet 15 = .ok (.iload_n 3, 1) := by decide +kernel
theorem dX1_greatestSet_16 : decode cX1_greatestSet 16 = .ok (.invokevirtual 48, 3) := by decide +kernel
theorem dX1_greatestSet_19 : decode cX1_greatestSet 19 = .ok (.ifCond .eq 13, 3) := by decide +kernel
theorem dX1_greatestSet_22 : decode cX1_greatestSet 22 = .ok (.iload_n 2, 1) := by decide +kernel
theorem dX1_greatestSet_23 : decode cX1_greatestSet 23 = .ok (.iload_n 1, 1) := by decide +kernel
theorem dX1_greatestSet_24 : decode cX1_greatestSet 24 = .ok (.if_icmp .ne 5, 3) := by decide +kernel
theorem dX1_greatestSet_27 : decode cX1_greatestSet 27 = .ok (.iload_n 3, 1) := by decide +kernel
theorem dX1_greatestSet_28 : decode cX1_greatestSet 28 = .ok (.ireturn, 1) := by decide +kernel
theorem dX1_greatestSet_29 : decode cX1_greatestSet 29 = .ok (.iinc 2 1, 3) := by decide +kernel
theorem dX1_greatestSet_32 : decode cX1_greatestSet 32 = .ok (.iinc 3 1, 3) := by decide +kernel
theorem dX1_greatestSet_35 : decode cX1_greatestSet 35 = .ok (.goto (-31), 3) := by decide +kernel
theorem dX1_greatestSet_38 : decode cX1_greatestSet 38 = .ok (.iconst (-1), 1) := by decide +kernel
theorem dX1_greatestSet_39 : decode cX1_greatestSet 39 = .ok (.ireturn, 1) := by decide +kernel
theorem dX1_measureBetweens_0 : decode cX1_measureBetweens 0 = .ok (.iconst 0, 1) := by decide +kernel
theorem dX1_measureBetweens_1 : decode cX1_measureBetweens 1 = .ok (.istore_n 2, 1) := by decide +kernel
theorem dX1_measureBetweens_2 : decode cX1_measureBetweens 2 = .ok (.iload_n 2, 1) := by decide +kernel
theorem dX1_measureBetweens_3 : decode cX1_measureBetweens 3 = .ok (.aload_n 1, 1) := by decide +kernel
theorem dX1_measureBetweens_4 : decode cX1_measureBetweens 4 = .ok (.getfield 52, 3) := by decide +kernel
theorem dX1_measureBetweens_7 : decode cX1_measureBetweens 7 = .ok (.if_icmp .ge 50, 3) := by decide +kernel
theorem dX1_measureBetweens_10 : decode cX1_measureBetweens 10 = .ok (.aload_n 1, 1) := by decide +kernel
theorem dX1_measureBetweens_11 : decode cX1_measureBetweens 11 = .ok (.getfield 57, 3) := by decide +kernel
theorem dX1_measureBetweens_14 : decode cX1_measureBetweens 14 = .ok (.iload_n 2, 1) := by decide +kernel
theorem dX1_measureBetweens_15 : decode cX1_measureBetweens 15 = .ok (.iaload, 1) := by decide +kernel
theorem dX1_measureBetweens_16 : decode cX1_measureBetweens 16 = .ok (.istore_n 3, 1) := by decide +kernel
theorem dX1_measureBetweens_17 : decode cX1_measureBetweens 17 = .ok (.aload_n 1, 1) := by decide +kernel
theorem dX1_measureBetweens_18 : decode cX1_measureBetweens 18 = .ok (.getfield 57, 3) := by decide +kernel
theorem dX1_measureBetweens_21 : decode cX1_measureBetweens 21 = .ok (.aload_n 1, 1) := by decide +kernel
theorem dX1_measureBetweens_22 : decode cX1_measureBetweens 22 = .ok (.iload_n 2, 1) := by decide +kernel
theorem dX1_measureBetweens_23 : decode cX1_measureBetweens 23 = .ok (.invokevirtual 60, 3) := by decide +kernel
theorem dX1_measureBetweens_26 : decode cX1_measureBetweens 26 = .ok (.iaload, 1) := by decide +kernel
theorem dX1_measureBetweens_27 : decode cX1_measureBetweens 27 = .ok (.istore 4, 2) := by decide +kernel
theorem dX1_measureBetweens_29 : decode cX1_measureBetweens 29 = .ok (.aload_n 1, 1) := by decide +kernel
theorem dX1_measureBetweens_30 : decode cX1_measureBetweens 30 = .ok (.getfield 64, 3) := by decide +kernel
theorem dX1_measureBetweens_33 : decode cX1_measureBetweens 33 = .ok (.iload_n 2, 1) := by decide +kernel
theorem dX1_measureBetweens_34 : decode cX1_measureBetweens 34 = .ok (.aload_n 0, 1) := by decide +kernel
theorem dX1_measureBetweens_35 : decode cX1_measureBetweens 35 = .ok (.iload_n 3, 1) := by decide +kernel
theorem dX1_measureBetweens_36 : decode cX1_measureBetweens 36 = .ok (.iload 4, 2) := by decide +kernel
theorem dX1_measureBetweens_38 : decode cX1_measureBetweens 38 = .ok (.iconst (-1), 1) := by decide +kernel
theorem dX1_measureBetweens_39 : decode cX1_measureBetweens 39 = .ok (.ixor, 1) := by decide +kernel
theorem dX1_measureBetweens_40 : decode cX1_measureBetweens 40 = .ok (.iand, 1) := by decide +kernel
theorem dX1_measureBetweens_41 : decode cX1_measureBetweens 41 = .ok (.iload 4, 2) := by decide +kernel
theorem dX1_measureBetweens_43 : decode cX1_measureBetweens 43 = .ok (.iload_n 3, 1) := by decide +kernel
theorem dX1_measureBetweens_44 : decode cX1_measureBetweens 44 = .ok (.iconst (-1), 1) := by decide +kernel
theorem dX1_measureBetweens_45 : decode cX1_measureBetweens 45 = .ok (.ixor, 1) := by decide +kernel
theorem dX1_measureBetweens_46 : decode cX1_measureBetweens 46 = .ok (.iand, 1) := by decide +kernel
theorem dX1_measureBetweens_47 : decode cX1_measureBetweens 47 = .ok (.invokevirtual 67, 3) := by decide +kernel
theorem dX1_measureBetweens_50 : decode cX1_measureBetweens 50 = .ok (.iastore, 1) := by decide +kernel
theorem dX1_measureBetweens_51 : decode cX1_measureBetweens 51 = .ok (.iinc 2 1, 3) := by decide +kernel
theorem dX1_measureBetweens_54 : decode cX1_measureBetweens 54 = .ok (.goto (-52), 3) := by decide +kernel
theorem dX1_measureBetweens_57 : decode cX1_measureBetweens 57 = .ok (.return_, 1) := by decide +kernel
theorem dX1_between_0 : decode cX1_between 0 = .ok (.iconst 0, 1) := by decide +kernel
theorem dX1_between_1 : decode cX1_between 1 = .ok (.istore_n 3, 1) := by decide +kernel
theorem dX1_between_2 : decode cX1_between 2 = .ok (.iconst 0, 1) := by decide +kernel
theorem dX1_between_3 : decode cX1_between 3 = .ok (.istore 4, 2) := by decide +kernel
theorem dX1_between_5 : decode cX1_between 5 = .ok (.iload 4, 2) := by decide +kernel
theorem dX1_between_7 : decode cX1_between 7 = .ok (.aload_n 0, 1) := by decide +kernel
theorem dX1_between_8 : decode cX1_between 8 = .ok (.getfield 30, 3) := by decide +kernel
theorem dX1_between_11 : decode cX1_between 11 = .ok (.if_icmp .ge 84, 3) := by decide +kernel
theorem dX1_between_14 : decode cX1_between 14 = .ok (.iload_n 1, 1) := by decide +kernel
theorem dX1_between_15 : decode cX1_between 15 = .ok (.iload 4, 2) := by decide +kernel
theorem dX1_between_17 : decode cX1_between 17 = .ok (.ishr, 1) := by decide +kernel
theorem dX1_between_18 : decode cX1_between 18 = .ok (.iconst 1, 1) := by decide +kernel
theorem dX1_between_19 : decode cX1_between 19 = .ok (.iand, 1) := by decide +kernel
theorem dX1_between_20 : decode cX1_between 20 = .ok (.ifCond .ne 7, 3) := by decide +kernel
theorem dX1_between_23 : decode cX1_between 23 = .ok (.iconst 0, 1) := by decide +kernel
theorem dX1_between_24 : decode cX1_between 24 = .ok (.goto 12, 3) := by decide +kernel
theorem dX1_between_27 : decode cX1_between 27 = .ok (.aload_n 0, 1) := by decide +kernel
theorem dX1_between_28 : decode cX1_between 28 = .ok (.getfield 24, 3) := by decide +kernel
theorem dX1_between_31 : decode cX1_between 31 = .ok (.iload 4, 2) := by decide +kernel
theorem dX1_between_33 : decode cX1_between 33 = .ok (.iaload, 1) := by decide +kernel
theorem dX1_between_34 : decode cX1_between 34 = .ok (.iload_n 2, 1) := by decide +kernel
theorem dX1_between_35 : decode cX1_between 35 = .ok (.iand, 1) := by decide +kernel
theorem dX1_between_36 : decode cX1_between 36 = .ok (.istore 5, 2) := by decide +kernel
theorem dX1_between_38 : decode cX1_between 38 = .ok (.iconst 0, 1) := by decide +kernel
theorem dX1_between_39 : decode cX1_between 39 = .ok (.istore 6, 2) := by decide +kernel
theorem dX1_between_41 : decode cX1_between 41 = .ok (.iload 6, 2) := by decide +kernel
theorem dX1_between_43 : decode cX1_between 43 = .ok (.aload_n 0, 1) := by decide +kernel
theorem dX1_between_44 : decode cX1_between 44 = .ok (.getfield 30, 3) := by decide +kernel
theorem dX1_between_47 : decode cX1_between 47 = .ok (.if_icmp .ge 42, 3) := by decide +kernel
theorem dX1_between_50 : decode cX1_between 50 = .ok (.iload 5, 2) := by decide +kernel
theorem dX1_between_52 : decode cX1_between 52 = .ok (.ifCond .eq 37, 3) := by decide +kernel
theorem dX1_between_55 : decode cX1_between 55 = .ok (.iload 5, 2) := by decide +kernel
theorem dX1_between_57 : decode cX1_between 57 = .ok (.iload 6, 2) := by decide +kernel
theorem dX1_between_59 : decode cX1_between 59 = .ok (.ishr, 1) := by decide +kernel
theorem dX1_between_60 : decode cX1_between 60 = .ok (.iconst 1, 1) := by decide +kernel
theorem dX1_between_61 : decode cX1_between 61 = .ok (.iand, 1) := by decide +kernel
theorem dX1_between_62 : decode cX1_between 62 = .ok (.ifCond .eq 21, 3) := by decide +kernel
theorem dX1_between_65 : decode cX1_between 65 = .ok (.iload_n 3, 1) := by decide +kernel
theorem dX1_between_66 : decode cX1_between 66 = .ok (.aload_n 0, 1) := by decide +kernel
theorem dX1_between_67 : decode cX1_between 67 = .ok (.getfield 17, 3) := by decide +kernel
theorem dX1_between_70 : decode cX1_between 70 = .ok (.iload 4, 2) := by decide +kernel
theorem dX1_between_72 : decode cX1_between 72 = .ok (.bipush 8, 2) := by decide +kernel
theorem dX1_between_74 : decode cX1_between 74 = .ok (.imul, 1) := by decide +kernel
theorem dX1_between_75 : decode cX1_between 75 = .ok (.iload 6, 2) := by decide +kernel
theorem dX1_between_77 : decode cX1_between 77 = .ok (.iadd, 1) := by decide +kernel
theorem dX1_between_78 : decode cX1_between 78 = .ok (.iaload, 1) := by decide +kernel
theorem dX1_between_79 : decode cX1_between 79 = .ok (.invokestatic 71, 3) := by decide +kernel
theorem dX1_between_82 : decode cX1_between 82 = .ok (.istore_n 3, 1) := by decide +kernel
theorem dX1_between_83 : decode cX1_between 83 = .ok (.iinc 6 1, 3) := by decide +kernel
theorem dX1_between_86 : decode cX1_between 86 = .ok (.goto (-45), 3) := by decide +kernel
theorem dX1_between_89 : decode cX1_between 89 = .ok (.iinc 4 1, 3) := by decide +kernel
theorem dX1_between_92 : decode cX1_between 92 = .ok (.goto (-87), 3) := by decide +kernel
theorem dX1_between_95 : decode cX1_between 95 = .ok (.iload_n 3, 1) := by decide +kernel
theorem dX1_between_96 : decode cX1_between 96 = .ok (.ireturn, 1) := by decide +kernel
theorem dX1_firstShortGreen_0 : decode cX1_firstShortGreen 0 = .ok (.aload_n 1, 1) := by decide +kernel
theorem dX1_firstShortGreen_1 : decode cX1_firstShortGreen 1 = .ok (.getfield 76, 3) := by decide +kernel
theorem dX1_firstShortGreen_4 : decode cX1_firstShortGreen 4 = .ok (.iload_n 2, 1) := by decide +kernel
theorem dX1_firstShortGreen_5 : decode cX1_firstShortGreen 5 = .ok (.ifCond .ne 12, 3) := by decide +kernel
theorem dX1_firstShortGreen_8 : decode cX1_firstShortGreen 8 = .ok (.aload_n 1, 1) := by decide +kernel
theorem dX1_firstShortGreen_9 : decode cX1_firstShortGreen 9 = .ok (.getfield 79, 3) := by decide +kernel
theorem dX1_firstShortGreen_12 : decode cX1_firstShortGreen 12 = .ok (.iconst 1, 1) := by decide +kernel
theorem dX1_firstShortGreen_13 : decode cX1_firstShortGreen 13 = .ok (.isub, 1) := by decide +kernel
theorem dX1_firstShortGreen_14 : decode cX1_firstShortGreen 14 = .ok (.goto 6, 3) := by decide +kernel
theorem dX1_firstShortGreen_17 : decode cX1_firstShortGreen 17 = .ok (.iload_n 2, 1) := by decide +kernel
theorem dX1_firstShortGreen_18 : decode cX1_firstShortGreen 18 = .ok (.iconst 1, 1) := by decide +kernel
theorem dX1_firstShortGreen_19 : decode cX1_firstShortGreen 19 = .ok (.isub, 1) := by decide +kernel
theorem dX1_firstShortGreen_20 : decode cX1_firstShortGreen 20 = .ok (.iaload, 1) := by decide +kernel
theorem dX1_firstShortGreen_21 : decode cX1_firstShortGreen 21 = .ok (.istore_n 3, 1) := by decide +kernel
theorem dX1_firstShortGreen_22 : decode cX1_firstShortGreen 22 = .ok (.aload_n 1, 1) := by decide +kernel
theorem dX1_firstShortGreen_23 : decode cX1_firstShortGreen 23 = .ok (.getfield 76, 3) := by decide +kernel
theorem dX1_firstShortGreen_26 : decode cX1_firstShortGreen 26 = .ok (.iload_n 2, 1) := by decide +kernel
theorem dX1_firstShortGreen_27 : decode cX1_firstShortGreen 27 = .ok (.iaload, 1) := by decide +kernel
theorem dX1_firstShortGreen_28 : decode cX1_firstShortGreen 28 = .ok (.iload_n 3, 1) := by decide +kernel
theorem dX1_firstShortGreen_29 : decode cX1_firstShortGreen 29 = .ok (.iconst (-1), 1) := by decide +kernel
theorem dX1_firstShortGreen_30 : decode cX1_firstShortGreen 30 = .ok (.ixor, 1) := by decide +kernel
theorem dX1_firstShortGreen_31 : decode cX1_firstShortGreen 31 = .ok (.iand, 1) := by decide +kernel
theorem dX1_firstShortGreen_32 : decode cX1_firstShortGreen 32 = .ok (.istore 4, 2) := by decide +kernel
theorem dX1_firstShortGreen_34 : decode cX1_firstShortGreen 34 = .ok (.iconst 0, 1) := by decide +kernel
theorem dX1_firstShortGreen_35 : decode cX1_firstShortGreen 35 = .ok (.istore 5, 2) := by decide +kernel
theorem dX1_firstShortGreen_37 : decode cX1_firstShortGreen 37 = .ok (.iload 5, 2) := by decide +kernel
theorem dX1_firstShortGreen_39 : decode cX1_firstShortGreen 39 = .ok (.aload_n 0, 1) := by decide +kernel
theorem dX1_firstShortGreen_40 : decode cX1_firstShortGreen 40 = .ok (.getfield 30, 3) := by decide +kernel
theorem dX1_firstShortGreen_43 : decode cX1_firstShortGreen 43 = .ok (.if_icmp .ge 38, 3) := by decide +kernel
theorem dX1_firstShortGreen_46 : decode cX1_firstShortGreen 46 = .ok (.iload 4, 2) := by decide +kernel
theorem dX1_firstShortGreen_48 : decode cX1_firstShortGreen 48 = .ok (.ifCond .eq 33, 3) := by decide +kernel
theorem dX1_firstShortGreen_51 : decode cX1_firstShortGreen 51 = .ok (.iload 4, 2) := by decide +kernel
theorem dX1_firstShortGreen_53 : decode cX1_firstShortGreen 53 = .ok (.iload 5, 2) := by decide +kernel
theorem dX1_firstShortGreen_55 : decode cX1_firstShortGreen 55 = .ok (.ishr, 1) := by decide +kernel
theorem dX1_firstShortGreen_56 : decode cX1_firstShortGreen 56 = .ok (.iconst 1, 1) := by decide +kernel
theorem dX1_firstShortGreen_57 : decode cX1_firstShortGreen 57 = .ok (.iand, 1) := by decide +kernel
theorem dX1_firstShortGreen_58 : decode cX1_firstShortGreen 58 = .ok (.ifCond .eq 17, 3) := by decide +kernel
theorem dX1_firstShortGreen_61 : decode cX1_firstShortGreen 61 = .ok (.aload_n 0, 1) := by decide +kernel
theorem dX1_firstShortGreen_62 : decode cX1_firstShortGreen 62 = .ok (.aload_n 1, 1) := by decide +kernel
theorem dX1_firstShortGreen_63 : decode cX1_firstShortGreen 63 = .ok (.iload 5, 2) := by decide +kernel
theorem dX1_firstShortGreen_65 : decode cX1_firstShortGreen 65 = .ok (.iload_n 2, 1) := by decide +kernel
theorem dX1_firstShortGreen_66 : decode cX1_firstShortGreen 66 = .ok (.invokevirtual 82, 3) := by decide +kernel
theorem dX1_firstShortGreen_69 : decode cX1_firstShortGreen 69 = .ok (.ifCond .eq 6, 3) := by decide +kernel
theorem dX1_firstShortGreen_72 : decode cX1_firstShortGreen 72 = .ok (.iload 5, 2) := by decide +kernel
theorem dX1_firstShortGreen_74 : decode cX1_firstShortGreen 74 = .ok (.ireturn, 1) := by decide +kernel
theorem dX1_firstShortGreen_75 : decode cX1_firstShortGreen 75 = .ok (.iinc 5 1, 3) := by decide +kernel
theorem dX1_firstShortGreen_78 : decode cX1_firstShortGreen 78 = .ok (.goto (-41), 3) := by decide +kernel
theorem dX1_firstShortGreen_81 : decode cX1_firstShortGreen 81 = .ok (.iconst (-1), 1) := by decide +kernel
theorem dX1_firstShortGreen_82 : decode cX1_firstShortGreen 82 = .ok (.ireturn, 1) := by decide +kernel
theorem dX1_endsTooSoon_0 : decode cX1_endsTooSoon 0 = .ok (.iload_n 3, 1) := by decide +kernel
theorem dX1_endsTooSoon_1 : decode cX1_endsTooSoon 1 = .ok (.istore 4, 2) := by decide +kernel
theorem dX1_endsTooSoon_3 : decode cX1_endsTooSoon 3 = .ok (.iconst 0, 1) := by decide +kernel
theorem dX1_endsTooSoon_4 : decode cX1_endsTooSoon 4 = .ok (.istore 5, 2) := by decide +kernel
theorem dX1_endsTooSoon_6 : decode cX1_endsTooSoon 6 = .ok (.iload 5, 2) := by decide +kernel
theorem dX1_endsTooSoon_8 : decode cX1_endsTooSoon 8 = .ok (.aload_n 0, 1) := by decide +kernel
theorem dX1_endsTooSoon_9 : decode cX1_endsTooSoon 9 = .ok (.getfield 11, 3) := by decide +kernel
theorem dX1_endsTooSoon_12 : decode cX1_endsTooSoon 12 = .ok (.iload_n 2, 1) := by decide +kernel
theorem dX1_endsTooSoon_13 : decode cX1_endsTooSoon 13 = .ok (.aaload, 1) := by decide +kernel
theorem dX1_endsTooSoon_14 : decode cX1_endsTooSoon 14 = .ok (.getfield 86, 3) := by decide +kernel
theorem dX1_endsTooSoon_17 : decode cX1_endsTooSoon 17 = .ok (.if_icmp .ge 46, 3) := by decide +kernel
theorem dX1_endsTooSoon_20 : decode cX1_endsTooSoon 20 = .ok (.aload_n 1, 1) := by decide +kernel
theorem dX1_endsTooSoon_21 : decode cX1_endsTooSoon 21 = .ok (.getfield 76, 3) := by decide +kernel
theorem dX1_endsTooSoon_24 : decode cX1_endsTooSoon 24 = .ok (.iload 4, 2) := by decide +kernel
theorem dX1_endsTooSoon_26 : decode cX1_endsTooSoon 26 = .ok (.iaload, 1) := by decide +kernel
theorem dX1_endsTooSoon_27 : decode cX1_endsTooSoon 27 = .ok (.iload_n 2, 1) := by decide +kernel
theorem dX1_endsTooSoon_28 : decode cX1_endsTooSoon 28 = .ok (.ishr, 1) := by decide +kernel
theorem dX1_endsTooSoon_29 : decode cX1_endsTooSoon 29 = .ok (.iconst 1, 1) := by decide +kernel
theorem dX1_endsTooSoon_30 : decode cX1_endsTooSoon 30 = .ok (.iand, 1) := by decide +kernel
theorem dX1_endsTooSoon_31 : decode cX1_endsTooSoon 31 = .ok (.ifCond .ne 5, 3) := by decide +kernel
theorem dX1_endsTooSoon_34 : decode cX1_endsTooSoon 34 = .ok (.iconst 1, 1) := by decide +kernel
theorem dX1_endsTooSoon_35 : decode cX1_endsTooSoon 35 = .ok (.ireturn, 1) := by decide +kernel
theorem dX1_endsTooSoon_36 : decode cX1_endsTooSoon 36 = .ok (.iload 4, 2) := by decide +kernel
theorem dX1_endsTooSoon_38 : decode cX1_endsTooSoon 38 = .ok (.iconst 1, 1) := by decide +kernel
theorem dX1_endsTooSoon_39 : decode cX1_endsTooSoon 39 = .ok (.iadd, 1) := by decide +kernel
theorem dX1_endsTooSoon_40 : decode cX1_endsTooSoon 40 = .ok (.aload_n 1, 1) := by decide +kernel
theorem dX1_endsTooSoon_41 : decode cX1_endsTooSoon 41 = .ok (.getfield 79, 3) := by decide +kernel
theorem dX1_endsTooSoon_44 : decode cX1_endsTooSoon 44 = .ok (.if_icmp .ge 10, 3) := by decide +kernel
theorem dX1_endsTooSoon_47 : decode cX1_endsTooSoon 47 = .ok (.iload 4, 2) := by decide +kernel
theorem dX1_endsTooSoon_49 : decode cX1_endsTooSoon 49 = .ok (.iconst 1, 1) := by decide +kernel
theorem dX1_endsTooSoon_50 : decode cX1_endsTooSoon 50 = .ok (.iadd, 1) := by decide +kernel
theorem dX1_endsTooSoon_51 : decode cX1_endsTooSoon 51 = .ok (.goto 4, 3) := by decide +kernel
theorem dX1_endsTooSoon_54 : decode cX1_endsTooSoon 54 = .ok (.iconst 0, 1) := by decide +kernel
theorem dX1_endsTooSoon_55 : decode cX1_endsTooSoon 55 = .ok (.istore 4, 2) := by decide +kernel
theorem dX1_endsTooSoon_57 : decode cX1_endsTooSoon 57 = .ok (.iinc 5 1, 3) := by decide +kernel
theorem dX1_endsTooSoon_60 : decode cX1_endsTooSoon 60 = .ok (.goto (-54), 3) := by decide +kernel
theorem dX1_endsTooSoon_63 : decode cX1_endsTooSoon 63 = .ok (.iconst 0, 1) := by decide +kernel
theorem dX1_endsTooSoon_64 : decode cX1_endsTooSoon 64 = .ok (.ireturn, 1) := by decide +kernel
theorem dX1_adopt_0 : decode cX1_adopt 0 = .ok (.aload_n 0, 1) := by decide +kernel
theorem dX1_adopt_1 : decode cX1_adopt 1 = .ok (.aload_n 0, 1) := by decide +kernel
theorem dX1_adopt_2 : decode cX1_adopt 2 = .ok (.getfield 34, 3) := by decide +kernel
theorem dX1_adopt_5 : decode cX1_adopt 5 = .ok (.putfield 38, 3) := by decide +kernel
theorem dX1_adopt_8 : decode cX1_adopt 8 = .ok (.aload_n 0, 1) := by decide +kernel
theorem dX1_adopt_9 : decode cX1_adopt 9 = .ok (.aconst_null, 1) := by decide +kernel
theorem dX1_adopt_10 : decode cX1_adopt 10 = .ok (.putfield 34, 3) := by decide +kernel
theorem dX1_adopt_13 : decode cX1_adopt 13 = .ok (.aload_n 0, 1) := by decide +kernel
theorem dX1_adopt_14 : decode cX1_adopt 14 = .ok (.getfield 38, 3) := by decide +kernel
theorem dX1_adopt_17 : decode cX1_adopt 17 = .ok (.iload_n 1, 1) := by decide +kernel
theorem dX1_adopt_18 : decode cX1_adopt 18 = .ok (.putfield 89, 3) := by decide +kernel
theorem dX1_adopt_21 : decode cX1_adopt 21 = .ok (.aload_n 0, 1) := by decide +kernel
theorem dX1_adopt_22 : decode cX1_adopt 22 = .ok (.getfield 38, 3) := by decide +kernel
theorem dX1_adopt_25 : decode cX1_adopt 25 = .ok (.aload_n 0, 1) := by decide +kernel
theorem dX1_adopt_26 : decode cX1_adopt 26 = .ok (.getfield 38, 3) := by decide +kernel
theorem dX1_adopt_29 : decode cX1_adopt 29 = .ok (.getfield 52, 3) := by decide +kernel
theorem dX1_adopt_32 : decode cX1_adopt 32 = .ok (.putfield 92, 3) := by decide +kernel
theorem dX1_adopt_35 : decode cX1_adopt 35 = .ok (.aload_n 0, 1) := by decide +kernel
theorem dX1_adopt_36 : decode cX1_adopt 36 = .ok (.iconst 0, 1) := by decide +kernel
theorem dX1_adopt_37 : decode cX1_adopt 37 = .ok (.putfield 95, 3) := by decide +kernel
theorem dX1_adopt_40 : decode cX1_adopt 40 = .ok (.aload_n 0, 1) := by decide +kernel
theorem dX1_adopt_41 : decode cX1_adopt 41 = .ok (.iload_n 2, 1) := by decide +kernel
theorem dX1_adopt_42 : decode cX1_adopt 42 = .ok (.invokevirtual 99, 3) := by decide +kernel
theorem dX1_adopt_45 : decode cX1_adopt 45 = .ok (.return_, 1) := by decide +kernel
theorem dX1_clear_0 : decode cX1_clear 0 = .ok (.iload_n 1, 1) := by decide +kernel
theorem dX1_clear_1 : decode cX1_clear 1 = .ok (.ifCond .le 11, 3) := by decide +kernel
theorem dX1_clear_4 : decode cX1_clear 4 = .ok (.aload_n 0, 1) := by decide +kernel
theorem dX1_clear_5 : decode cX1_clear 5 = .ok (.iload_n 1, 1) := by decide +kernel
theorem dX1_clear_6 : decode cX1_clear 6 = .ok (.bipush 20, 2) := by decide +kernel
theorem dX1_clear_8 : decode cX1_clear 8 = .ok (.iadd, 1) := by decide +kernel
theorem dX1_clear_9 : decode cX1_clear 9 = .ok (.putfield 103, 3) := by decide +kernel
theorem dX1_clear_12 : decode cX1_clear 12 = .ok (.return_, 1) := by decide +kernel
theorem dX1_pass_0 : decode cX1_pass 0 = .ok (.aload_n 0, 1) := by decide +kernel
theorem dX1_pass_1 : decode cX1_pass 1 = .ok (.aload_n 0, 1) := by decide +kernel
theorem dX1_pass_2 : decode cX1_pass 2 = .ok (.iload_n 1, 1) := by decide +kernel
theorem dX1_pass_3 : decode cX1_pass 3 = .ok (.invokevirtual 106, 3) := by decide +kernel
theorem dX1_pass_6 : decode cX1_pass 6 = .ok (.putfield 109, 3) := by decide +kernel
theorem dX1_pass_9 : decode cX1_pass 9 = .ok (.aload_n 0, 1) := by decide +kernel
theorem dX1_pass_10 : decode cX1_pass 10 = .ok (.getfield 27, 3) := by decide +kernel
theorem dX1_pass_13 : decode cX1_pass 13 = .ok (.iload_n 1, 1) := by decide +kernel
theorem dX1_pass_14 : decode cX1_pass 14 = .ok (.sipush 200, 3) := by decide +kernel
theorem dX1_pass_17 : decode cX1_pass 17 = .ok (.irem, 1) := by decide +kernel
theorem dX1_pass_18 : decode cX1_pass 18 = .ok (.aload_n 0, 1) := by decide +kernel
theorem dX1_pass_19 : decode cX1_pass 19 = .ok (.getfield 109, 3) := by decide +kernel
theorem dX1_pass_22 : decode cX1_pass 22 = .ok (.iastore, 1) := by decide +kernel
theorem dX1_pass_23 : decode cX1_pass 23 = .ok (.iconst 0, 1) := by decide +kernel
theorem dX1_pass_24 : decode cX1_pass 24 = .ok (.istore_n 2, 1) := by decide +kernel
theorem dX1_pass_25 : decode cX1_pass 25 = .ok (.iload_n 2, 1) := by decide +kernel
theorem dX1_pass_26 : decode cX1_pass 26 = .ok (.aload_n 0, 1) := by decide +kernel
theorem dX1_pass_27 : decode cX1_pass 27 = .ok (.getfield 30, 3) := by decide +kernel
theorem dX1_pass_30 : decode cX1_pass 30 = .ok (.if_icmp .ge 35, 3) := by decide +kernel
theorem dX1_pass_33 : decode cX1_pass 33 = .ok (.aload_n 0, 1) := by decide +kernel
theorem dX1_pass_34 : decode cX1_pass 34 = .ok (.getfield 11, 3) := by decide +kernel
theorem dX1_pass_37 : decode cX1_pass 37 = .ok (.iload_n 2, 1) := by decide +kernel
theorem dX1_pass_38 : decode cX1_pass 38 = .ok (.aaload, 1) := by decide +kernel
theorem dX1_pass_39 : decode cX1_pass 39 = .ok (.iload_n 1, 1) := by decide +kernel
theorem dX1_pass_40 : decode cX1_pass 40 = .ok (.aload_n 0, 1) := by decide +kernel
theorem dX1_pass_41 : decode cX1_pass 41 = .ok (.getfield 109, 3) := by decide +kernel
theorem dX1_pass_44 : decode cX1_pass 44 = .ok (.iload_n 2, 1) := by decide +kernel
theorem dX1_pass_45 : decode cX1_pass 45 = .ok (.ishr, 1) := by decide +kernel
theorem dX1_pass_46 : decode cX1_pass 46 = .ok (.iconst 1, 1) := by decide +kernel
theorem dX1_pass_47 : decode cX1_pass 47 = .ok (.iand, 1) := by decide +kernel
theorem dX1_pass_48 : decode cX1_pass 48 = .ok (.ifCond .eq 7, 3) := by decide +kernel
theorem dX1_pass_51 : decode cX1_pass 51 = .ok (.iconst 1, 1) := by decide +kernel
theorem dX1_pass_52 : decode cX1_pass 52 = .ok (.goto 4, 3) := by decide +kernel
theorem dX1_pass_55 : decode cX1_pass 55 = .ok (.iconst 0, 1) := by decide +kernel
theorem dX1_pass_56 : decode cX1_pass 56 = .ok (.invokevirtual 112, 3) := by decide +kernel
theorem dX1_pass_59 : decode cX1_pass 59 = .ok (.iinc 2 1, 3) := by decide +kernel
theorem dX1_pass_62 : decode cX1_pass 62 = .ok (.goto (-37), 3) := by decide +kernel
theorem dX1_pass_65 : decode cX1_pass 65 = .ok (.return_, 1) := by decide +kernel
theorem dX1_lampsAt_0 : decode cX1_lampsAt 0 = .ok (.aload_n 0, 1) := by decide +kernel
theorem dX1_lampsAt_1 : decode cX1_lampsAt 1 = .ok (.getfield 38, 3) := by decide +kernel
theorem dX1_lampsAt_4 : decode cX1_lampsAt 4 = .ok (.ifnonnull 5, 3) := by decide +kernel
theorem dX1_lampsAt_7 : decode cX1_lampsAt 7 = .ok (.iconst 0, 1) := by decide +kernel
theorem dX1_lampsAt_8 : decode cX1_lampsAt 8 = .ok (.ireturn, 1) := by decide +kernel
theorem dX1_lampsAt_9 : decode cX1_lampsAt 9 = .ok (.aload_n 0, 1) := by decide +kernel
theorem dX1_lampsAt_10 : decode cX1_lampsAt 10 = .ok (.getfield 38, 3) := by decide +kernel
theorem dX1_lampsAt_13 : decode cX1_lampsAt 13 = .ok (.iload_n 1, 1) := by decide +kernel
theorem dX1_lampsAt_14 : decode cX1_lampsAt 14 = .ok (.invokevirtual 116, 3) := by decide +kernel
theorem dX1_lampsAt_17 : decode cX1_lampsAt 17 = .ok (.istore_n 2, 1) := by decide +kernel
theorem dX1_lampsAt_18 : decode cX1_lampsAt 18 = .ok (.aload_n 0, 1) := by decide +kernel
theorem dX1_lampsAt_19 : decode cX1_lampsAt 19 = .ok (.getfield 38, 3) := by decide +kernel
theorem dX1_lampsAt_22 : decode cX1_lampsAt 22 = .ok (.getfield 92, 3) := by decide +kernel
theorem dX1_lampsAt_25 : decode cX1_lampsAt 25 = .ok (.aload_n 0, 1) := by decide +kernel
theorem dX1_lampsAt_26 : decode cX1_lampsAt 26 = .ok (.getfield 38, 3) := by decide +kernel
theorem dX1_lampsAt_29 : decode cX1_lampsAt 29 = .ok (.getfield 52, 3) := by decide +kernel
theorem dX1_lampsAt_32 : decode cX1_lampsAt 32 = .ok (.if_icmp .ge 26, 3) := by decide +kernel
theorem dX1_lampsAt_35 : decode cX1_lampsAt 35 = .ok (.aload_n 0, 1) := by decide +kernel
theorem dX1_lampsAt_36 : decode cX1_lampsAt 36 = .ok (.getfield 38, 3) := by decide +kernel
theorem dX1_lampsAt_39 : decode cX1_lampsAt 39 = .ok (.iload_n 2, 1) := by decide +kernel
theorem dX1_lampsAt_40 : decode cX1_lampsAt 40 = .ok (.invokevirtual 119, 3) := by decide +kernel
theorem dX1_lampsAt_43 : decode cX1_lampsAt 43 = .ok (.aload_n 0, 1) := by decide +kernel
theorem dX1_lampsAt_44 : decode cX1_lampsAt 44 = .ok (.getfield 38, 3) := by decide +kernel
theorem dX1_lampsAt_47 : decode cX1_lampsAt 47 = .ok (.getfield 92, 3) := by decide +kernel
theorem dX1_lampsAt_50 : decode cX1_lampsAt 50 = .ok (.if_icmp .lt 8, 3) := by decide +kernel
theorem dX1_lampsAt_53 : decode cX1_lampsAt 53 = .ok (.aload_n 0, 1) := by decide +kernel
theorem dX1_lampsAt_54 : decode cX1_lampsAt 54 = .ok (.iconst 1, 1) := by decide +kernel
theorem dX1_lampsAt_55 : decode cX1_lampsAt 55 = .ok (.putfield 95, 3) := by decide +kernel
theorem dX1_lampsAt_58 : decode cX1_lampsAt 58 = .ok (.aload_n 0, 1) := by decide +kernel
theorem dX1_lampsAt_59 : decode cX1_lampsAt 59 = .ok (.getfield 95, 3) := by decide +kernel
theorem dX1_lampsAt_62 : decode cX1_lampsAt 62 = .ok (.ifCond .ne 11, 3) := by decide +kernel
theorem dX1_lampsAt_65 : decode cX1_lampsAt 65 = .ok (.iload_n 1, 1) := by decide +kernel
theorem dX1_lampsAt_66 : decode cX1_lampsAt 66 = .ok (.aload_n 0, 1) := by decide +kernel
theorem dX1_lampsAt_67 : decode cX1_lampsAt 67 = .ok (.getfield 103, 3) := by decide +kernel
theorem dX1_lampsAt_70 : decode cX1_lampsAt 70 = .ok (.if_icmp .ge 7, 3) := by decide +kernel
theorem dX1_lampsAt_73 : decode cX1_lampsAt 73 = .ok (.iconst 0, 1) := by decide +kernel
theorem dX1_lampsAt_74 : decode cX1_lampsAt 74 = .ok (.goto 12, 3) := by decide +kernel
theorem dX1_lampsAt_77 : decode cX1_lampsAt 77 = .ok (.aload_n 0, 1) := by decide +kernel
theorem dX1_lampsAt_78 : decode cX1_lampsAt 78 = .ok (.getfield 38, 3) := by decide +kernel
theorem dX1_lampsAt_81 : decode cX1_lampsAt 81 = .ok (.getfield 76, 3) := by decide +kernel
theorem dX1_lampsAt_84 : decode cX1_lampsAt 84 = .ok (.iload_n 2, 1) := by decide +kernel
theorem dX1_lampsAt_85 : decode cX1_lampsAt 85 = .ok (.iaload, 1) := by decide +kernel
theorem dX1_lampsAt_86 : decode cX1_lampsAt 86 = .ok (.ireturn, 1) := by decide +kernel
theorem dX2_init_0 : decode cX2_init 0 = .ok (.aload_n 0, 1) := by decide +kernel
theorem dX2_init_1 : decode cX2_init 1 = .ok (.invokespecial 3, 3) := by decide +kernel
theorem dX2_init_4 : decode cX2_init 4 = .ok (.aload_n 0, 1) := by decide +kernel
theorem dX2_init_5 : decode cX2_init 5 = .ok (.bipush 20, 2) := by decide +kernel
theorem dX2_init_7 : decode cX2_init 7 = .ok (.putfield 9, 3) := by decide +kernel
theorem dX2_init_10 : decode cX2_init 10 = .ok (.aload_n 0, 1) := by decide +kernel
theorem dX2_init_11 : decode cX2_init 11 = .ok (.iconst 4, 1) := by decide +kernel
theorem dX2_init_12 : decode cX2_init 12 = .ok (.newarray .int, 2) := by decide +kernel
theorem dX2_init_14 : decode cX2_init 14 = .ok (.putfield 15, 3) := by decide +kernel
theorem dX2_init_17 : decode cX2_init 17 = .ok (.aload_n 0, 1) := by decide +kernel
theorem dX2_init_18 : decode cX2_init 18 = .ok (.iconst 4, 1) := by decide +kernel
theorem dX2_init_19 : decode cX2_init 19 = .ok (.newarray .int, 2) := by decide +kernel
theorem dX2_init_21 : decode cX2_init 21 = .ok (.putfield 19, 3) := by decide +kernel
theorem dX2_init_24 : decode cX2_init 24 = .ok (.aload_n 0, 1) := by decide +kernel
theorem dX2_init_25 : decode cX2_init 25 = .ok (.iconst 4, 1) := by decide +kernel
theorem dX2_init_26 : decode cX2_init 26 = .ok (.newarray .int, 2) := by decide +kernel
theorem dX2_init_28 : decode cX2_init 28 = .ok (.putfield 22, 3) := by decide +kernel
theorem dX2_init_31 : decode cX2_init 31 = .ok (.aload_n 0, 1) := by decide +kernel
theorem dX2_init_32 : decode cX2_init 32 = .ok (.iconst 4, 1) := by decide +kernel
theorem dX2_init_33 : decode cX2_init 33 = .ok (.newarray .int, 2) := by decide +kernel
theorem dX2_init_35 : decode cX2_init 35 = .ok (.putfield 25, 3) := by decide +kernel
theorem dX2_init_38 : decode cX2_init 38 = .ok (.aload_n 0, 1) := by decide +kernel
theorem dX2_init_39 : decode cX2_init 39 = .ok (.bipush 90, 2) := by decide +kernel
theorem dX2_init_41 : decode cX2_init 41 = .ok (.newarray .int, 2) := by decide +kernel
theorem dX2_init_43 : decode cX2_init 43 = .ok (.putfield 28, 3) := by decide +kernel
theorem dX2_init_46 : decode cX2_init 46 = .ok (.return_, 1) := by decide +kernel
theorem dX2_add_0 : decode cX2_add 0 = .ok (.aload_n 0, 1) := by decide +kernel
theorem dX2_add_1 : decode cX2_add 1 = .ok (.getfield 15, 3) := by decide +kernel
theorem dX2_add_4 : decode cX2_add 4 = .ok (.aload_n 0, 1) := by decide +kernel
theorem dX2_add_5 : decode cX2_add 5 = .ok (.getfield 31, 3) := by decide +kernel
theorem dX2_add_8 : decode cX2_add 8 = .ok (.iload_n 1, 1) := by decide +kernel
theorem dX2_add_9 : decode cX2_add 9 = .ok (.iastore, 1) := by decide +kernel
theorem dX2_add_10 : decode cX2_add 10 = .ok (.aload_n 0, 1) := by decide +kernel
theorem dX2_add_11 : decode cX2_add 11 = .ok (.getfield 19, 3) := by decide +kernel
theorem dX2_add_14 : decode cX2_add 14 = .ok (.aload_n 0, 1) := by decide +kernel
theorem dX2_add_15 : decode cX2_add 15 = .ok (.getfield 31, 3) := by decide +kernel
theorem dX2_add_18 : decode cX2_add 18 = .ok (.iload_n 2, 1) := by decide +kernel
theorem dX2_add_19 : decode cX2_add 19 = .ok (.iastore, 1) := by decide +kernel
theorem dX2_add_20 : decode cX2_add 20 = .ok (.aload_n 0, 1) := by decide +kernel
theorem dX2_add_21 : decode cX2_add 21 = .ok (.dup, 1) := by decide +kernel
theorem dX2_add_22 : decode cX2_add 22 = .ok (.getfield 31, 3) := by decide +kernel
theorem dX2_add_25 : decode cX2_add 25 = .ok (.iconst 1, 1) := by decide +kernel
theorem dX2_add_26 : decode cX2_add 26 = .ok (.iadd, 1) := by decide +kernel
theorem dX2_add_27 : decode cX2_add 27 = .ok (.putfield 31, 3) := by decide +kernel
theorem dX2_add_30 : decode cX2_add 30 = .ok (.return_, 1) := by decide +kernel
theorem dX2_behind_0 : decode cX2_behind 0 = .ok (.iload_n 1, 1) := by decide +kernel
theorem dX2_behind_1 : decode cX2_behind 1 = .ok (.iconst 1, 1) := by decide +kernel
theorem dX2_behind_2 : decode cX2_behind 2 = .ok (.iadd, 1) := by decide +kernel
theorem dX2_behind_3 : decode cX2_behind 3 = .ok (.aload_n 0, 1) := by decide +kernel
theorem dX2_behind_4 : decode cX2_behind 4 = .ok (.getfield 31, 3) := by decide +kernel
theorem dX2_behind_7 : decode cX2_behind 7 = .ok (.if_icmp .ge 9, 3) := by decide +kernel
theorem dX2_behind_10 : decode cX2_behind 10 = .ok (.iload_n 1, 1) := by decide +kernel
theorem dX2_behind_11 : decode cX2_behind 11 = .ok (.iconst 1, 1) := by decide +kernel
theorem dX2_behind_12 : decode cX2_behind 12 = .ok (.iadd, 1) := by decide +kernel
theorem dX2_behind_13 : decode cX2_behind 13 = .ok (.goto 4, 3) := by decide +kernel
theorem dX2_behind_16 : decode cX2_behind 16 = .ok (.iconst 0, 1) := by decide +kernel
theorem dX2_behind_17 : decode cX2_behind 17 = .ok (.ireturn, 1) := by decide +kernel
theorem dX2_hasStageWithoutGreen_0 : decode cX2_hasStageWithoutGreen 0 = .ok (.iconst 0, 1) := by decide +kernel
theorem dX2_hasStageWithoutGreen_1 : decode cX2_hasStageWithoutGreen 1 = .ok (.istore_n 1, 1) := by decide +kernel
theorem dX2_hasStageWithoutGreen_2 : decode cX2_hasStageWithoutGreen 2 = .ok (.iload_n 1, 1) := by decide +kernel
theorem dX2_hasStageWithoutGreen_3 : decode cX2_hasStageWithoutGreen 3 = .ok (.aload_n 0, 1) := by decide +kernel
theorem dX2_hasStageWithoutGreen_4 : decode cX2_hasStageWithoutGreen 4 = .ok (.getfield 31, 3) := by decide +kernel
theorem dX2_hasStageWithoutGreen_7 : decode cX2_hasStageWithoutGreen 7 = .ok (.if_icmp .ge 21, 3) := by decide +kernel
theorem dX2_hasStageWithoutGreen_10 : decode cX2_hasStageWithoutGreen 10 = .ok (.aload_n 0, 1) := by decide +kernel
theorem dX2_hasStageWithoutGreen_11 : decode cX2_hasStageWithoutGreen 11 = .ok (.getfield 19, 3) := by decide +kernel
theorem dX2_hasStageWithoutGreen_14 : decode cX2_hasStageWithoutGreen 14 = .ok (.iload_n 1, 1) := by decide +kernel
theorem dX2_hasStageWithoutGreen_15 : decode cX2_hasStageWithoutGreen 15 = .ok (.iaload, 1) := by decide +kernel
theorem dX2_hasStageWithoutGreen_16 : decode cX2_hasStageWithoutGreen 16 = .ok (.iconst 1, 1) := by decide +kernel
theorem dX2_hasStageWithoutGreen_17 : decode cX2_hasStageWithoutGreen 17 = .ok (.if_icmp .ge 5, 3) := by decide +kernel
theorem dX2_hasStageWithoutGreen_20 : decode cX2_hasStageWithoutGreen 20 = .ok (.iconst 1, 1) := by decide +kernel
theorem dX2_hasStageWithoutGreen_21 : decode cX2_hasStageWithoutGreen 21 = .ok (.ireturn, 1) := by decide +kernel
theorem dX2_hasStageWithoutGreen_22 : decode cX2_hasStageWithoutGreen 22 = .ok (.iinc 1 1, 3) := by decide +kernel
theorem dX2_hasStageWithoutGreen_25 : decode cX2_hasStageWithoutGreen 25 = .ok (.goto (-23), 3) := by decide +kernel
theorem dX2_hasStageWithoutGreen_28 : decode cX2_hasStageWithoutGreen 28 = .ok (.iconst 0, 1) := by decide +kernel
theorem dX2_hasStageWithoutGreen_29 : decode cX2_hasStageWithoutGreen 29 = .ok (.ireturn, 1) := by decide +kernel
theorem dX2_allGreens_0 : decode cX2_allGreens 0 = .ok (.iconst 0, 1) := by decide +kernel
theorem dX2_allGreens_1 : decode cX2_allGreens 1 = .ok (.istore_n 1, 1) := by decide +kernel
theorem dX2_allGreens_2 : decode cX2_allGreens 2 = .ok (.iconst 0, 1) := by decide +kernel
theorem dX2_allGreens_3 : decode cX2_allGreens 3 = .ok (.istore_n 2, 1) := by decide +kernel
theorem dX2_allGreens_4 : decode cX2_allGreens 4 = .ok (.iload_n 2, 1) := by decide +kernel
theorem dX2_allGreens_5 : decode cX2_allGreens 5 = .ok (.aload_n 0, 1) := by decide +kernel
theorem dX2_allGreens_6 : decode cX2_allGreens 6 = .ok (.getfield 31, 3) := by decide +kernel
theorem dX2_allGreens_9 : decode cX2_allGreens 9 = .ok (.if_icmp .ge 18, 3) := by decide +kernel
theorem dX2_allGreens_12 : decode cX2_allGreens 12 = .ok (.iload_n 1, 1) := by decide +kernel
theorem dX2_allGreens_13 : decode cX2_allGreens 13 = .ok (.aload_n 0, 1) := by decide +kernel
theorem dX2_allGreens_14 : decode cX2_allGreens 14 = .ok (.getfield 19, 3) := by decide +kernel
theorem dX2_allGreens_17 : decode cX2_allGreens 17 = .ok (.iload_n 2, 1) := by decide +kernel
theorem dX2_allGreens_18 : decode cX2_allGreens 18 = .ok (.iaload, 1) := by decide +kernel
theorem dX2_allGreens_19 : decode cX2_allGreens 19 = .ok (.iadd, 1) := by decide +kernel
theorem dX2_allGreens_20 : decode cX2_allGreens 20 = .ok (.istore_n 1, 1) := by decide +kernel
theorem dX2_allGreens_21 : decode cX2_allGreens 21 = .ok (.iinc 2 1, 3) := by decide +kernel
theorem dX2_allGreens_24 : decode cX2_allGreens 24 = .ok (.goto (-20), 3) := by decide +kernel
theorem dX2_allGreens_27 : decode cX2_allGreens 27 = .ok (.iload_n 1, 1) := by decide +kernel
theorem dX2_allGreens_28 : decode cX2_allGreens 28 = .ok (.ireturn, 1) := by decide +kernel
theorem dX2_allBetweens_0 : decode cX2_allBetweens 0 = .ok (.iconst 0, 1) := by decide +kernel
theorem dX2_allBetweens_1 : decode cX2_allBetweens 1 = .ok (.istore_n 1, 1) := by decide +kernel
theorem dX2_allBetweens_2 : decode cX2_allBetweens 2 = .ok (.iconst 0, 1) := by decide +kernel
theorem dX2_allBetweens_3 : decode cX2_allBetweens 3 = .ok (.istore_n 2, 1) := by decide +kernel
theorem dX2_allBetweens_4 : decode cX2_allBetweens 4 = .ok (.iload_n 2, 1) := by decide +kernel
theorem dX2_allBetweens_5 : decode cX2_allBetweens 5 = .ok (.aload_n 0, 1) := by decide +kernel
theorem dX2_allBetweens_6 : decode cX2_allBetweens 6 = .ok (.getfield 31, 3) := by decide +kernel
theorem dX2_allBetweens_9 : decode cX2_allBetweens 9 = .ok (.if_icmp .ge 18, 3) := by decide +kernel
theorem dX2_allBetweens_12 : decode cX2_allBetweens 12 = .ok (.iload_n 1, 1) := by decide +kernel
theorem dX2_allBetweens_13 : decode cX2_allBetweens 13 = .ok (.aload_n 0, 1) := by decide +kernel
theorem dX2_allBetweens_14 : decode cX2_allBetweens 14 = .ok (.getfield 22, 3) := by decide +kernel
theorem dX2_allBetweens_17 : decode cX2_allBetweens 17 = .ok (.iload_n 2, 1) := by decide +kernel
theorem dX2_allBetweens_18 : decode cX2_allBetweens 18 = .ok (.iaload, 1) := by decide +kernel
theorem dX2_allBetweens_19 : decode cX2_allBetweens 19 = .ok (.iadd, 1) := by decide +kernel
theorem dX2_allBetweens_20 : decode cX2_allBetweens 20 = .ok (.istore_n 1, 1) := by decide +kernel
theorem dX2_allBetweens_21 : decode cX2_allBetweens 21 = .ok (.iinc 2 1, 3) := by decide +kernel
theorem dX2_allBetweens_24 : decode cX2_allBetweens 24 = .ok (.goto (-20), 3) := by decide +kernel
theorem dX2_allBetweens_27 : decode cX2_allBetweens 27 = .ok (.iload_n 1, 1) := by decide +kernel
theorem dX2_allBetweens_28 : decode cX2_allBetweens 28 = .ok (.ireturn, 1) := by decide +kernel
theorem dX2_toldOfStage_0 : decode cX2_toldOfStage 0 = .ok (.iload_n 2, 1) := by decide +kernel
theorem dX2_toldOfStage_1 : decode cX2_toldOfStage 1 = .ok (.ifCond .lt 11, 3) := by decide +kernel
theorem dX2_toldOfStage_4 : decode cX2_toldOfStage 4 = .ok (.iload_n 2, 1) := by decide +kernel
theorem dX2_toldOfStage_5 : decode cX2_toldOfStage 5 = .ok (.aload_n 0, 1) := by decide +kernel
theorem dX2_toldOfStage_6 : decode cX2_toldOfStage 6 = .ok (.getfield 31, 3) := by decide +kernel
theorem dX2_toldOfStage_9 : decode cX2_toldOfStage 9 = .ok (.if_icmp .lt 5, 3) := by decide +kernel
theorem dX2_toldOfStage_12 : decode cX2_toldOfStage 12 = .ok (.iconst (-1), 1) := by decide +kernel
theorem dX2_toldOfStage_13 : decode cX2_toldOfStage 13 = .ok (.ireturn, 1) := by decide +kernel
theorem dX2_toldOfStage_14 : decode cX2_toldOfStage 14 = .ok (.iload_n 1, 1) := by decide +kernel
theorem dX2_toldOfStage_15 : decode cX2_toldOfStage 15 = .ok (.tableswitch 58 1 3 #[25, 32, 51], 25) := by decide +kernel
theorem dX2_toldOfStage_40 : decode cX2_toldOfStage 40 = .ok (.aload_n 0, 1) := by decide +kernel
theorem dX2_toldOfStage_41 : decode cX2_toldOfStage 41 = .ok (.getfield 15, 3) := by decide +kernel
theorem dX2_toldOfStage_44 : decode cX2_toldOfStage 44 = .ok (.iload_n 2, 1) := by decide +kernel
theorem dX2_toldOfStage_45 : decode cX2_toldOfStage 45 = .ok (.iaload, 1) := by decide +kernel
theorem dX2_toldOfStage_46 : decode cX2_toldOfStage 46 = .ok (.ireturn, 1) := by decide +kernel
theorem dX2_toldOfStage_47 : decode cX2_toldOfStage 47 = .ok (.iload_n 2, 1) := by decide +kernel
theorem dX2_toldOfStage_48 : decode cX2_toldOfStage 48 = .ok (.aload_n 0, 1) := by decide +kernel
theorem dX2_toldOfStage_49 : decode cX2_toldOfStage 49 = .ok (.getfield 34, 3) := by decide +kernel
theorem dX2_toldOfStage_52 : decode cX2_toldOfStage 52 = .ok (.if_icmp .ge 12, 3) := by decide +kernel
theorem dX2_toldOfStage_55 : decode cX2_toldOfStage 55 = .ok (.aload_n 0, 1) := by decide +kernel
theorem dX2_toldOfStage_56 : decode cX2_toldOfStage 56 = .ok (.getfield 19, 3) := by decide +kernel
theorem dX2_toldOfStage_59 : decode cX2_toldOfStage 59 = .ok (.iload_n 2, 1) := by decide +kernel
theorem dX2_toldOfStage_60 : decode cX2_toldOfStage 60 = .ok (.iaload, 1) := by decide +kernel
theorem dX2_toldOfStage_61 : decode cX2_toldOfStage 61 = .ok (.goto 4, 3) := by decide +kernel
theorem dX2_toldOfStage_64 : decode cX2_toldOfStage 64 = .ok (.iconst (-1), 1) := by decide +kernel
theorem dX2_toldOfStage_65 : decode cX2_toldOfStage 65 = .ok (.ireturn, 1) := by decide +kernel
theorem dX2_toldOfStage_66 : decode cX2_toldOfStage 66 = .ok (.aload_n 0, 1) := by decide +kernel
theorem dX2_toldOfStage_67 : decode cX2_toldOfStage 67 = .ok (.getfield 22, 3) := by decide +kernel
theorem dX2_toldOfStage_70 : decode cX2_toldOfStage 70 = .ok (.iload_n 2, 1) := by decide +kernel
theorem dX2_toldOfStage_71 : decode cX2_toldOfStage 71 = .ok (.iaload, 1) := by decide +kernel
theorem dX2_toldOfStage_72 : decode cX2_toldOfStage 72 = .ok (.ireturn, 1) := by decide +kernel
theorem dX2_toldOfStage_73 : decode cX2_toldOfStage 73 = .ok (.iconst (-1), 1) := by decide +kernel
theorem dX2_toldOfStage_74 : decode cX2_toldOfStage 74 = .ok (.ireturn, 1) := by decide +kernel
theorem dX2_layLamps_0 : decode cX2_layLamps 0 = .ok (.iconst 0, 1) := by decide +kernel
theorem dX2_layLamps_1 : decode cX2_layLamps 1 = .ok (.istore_n 1, 1) := by decide +kernel
theorem dX2_layLamps_2 : decode cX2_layLamps 2 = .ok (.iconst 0, 1) := by decide +kernel
theorem dX2_layLamps_3 : decode cX2_layLamps 3 = .ok (.istore_n 2, 1) := by decide +kernel
theorem dX2_layLamps_4 : decode cX2_layLamps 4 = .ok (.iload_n 2, 1) := by decide +kernel
theorem dX2_layLamps_5 : decode cX2_layLamps 5 = .ok (.aload_n 0, 1) := by decide +kernel
theorem dX2_layLamps_6 : decode cX2_layLamps 6 = .ok (.getfield 31, 3) := by decide +kernel
theorem dX2_layLamps_9 : decode cX2_layLamps 9 = .ok (.if_icmp .ge 83, 3) := by decide +kernel
theorem dX2_layLamps_12 : decode cX2_layLamps 12 = .ok (.aload_n 0, 1) := by decide +kernel
theorem dX2_layLamps_13 : decode cX2_layLamps 13 = .ok (.iload_n 1, 1) := by decide +kernel
theorem dX2_layLamps_14 : decode cX2_layLamps 14 = .ok (.iload_n 1, 1) := by decide +kernel
theorem dX2_layLamps_15 : decode cX2_layLamps 15 = .ok (.aload_n 0, 1) := by decide +kernel
theorem dX2_layLamps_16 : decode cX2_layLamps 16 = .ok (.getfield 19, 3) := by decide +kernel
theorem dX2_layLamps_19 : decode cX2_layLamps 19 = .ok (.iload_n 2, 1) := by decide +kernel
theorem dX2_layLamps_20 : decode cX2_layLamps 20 = .ok (.iaload, 1) := by decide +kernel
theorem dX2_layLamps_21 : decode cX2_layLamps 21 = .ok (.iadd, 1) := by decide +kernel
theorem dX2_layLamps_22 : decode cX2_layLamps 22 = .ok (.aload_n 0, 1) := by decide +kernel
theorem dX2_layLamps_23 : decode cX2_layLamps 23 = .ok (.getfield 15, 3) := by decide +kernel
theorem dX2_layLamps_26 : decode cX2_layLamps 26 = .ok (.iload_n 2, 1) := by decide +kernel
theorem dX2_layLamps_27 : decode cX2_layLamps 27 = .ok (.iaload, 1) := by decide +kernel
theorem dX2_layLamps_28 : decode cX2_layLamps 28 = .ok (.invokevirtual 37, 3) := by decide +kernel
theorem dX2_layLamps_31 : decode cX2_layLamps 31 = .ok (.iload_n 1, 1) := by decide +kernel
theorem dX2_layLamps_32 : decode cX2_layLamps 32 = .ok (.aload_n 0, 1) := by decide +kernel
theorem dX2_layLamps_33 : decode cX2_layLamps 33 = .ok (.getfield 19, 3) := by decide +kernel
theorem dX2_layLamps_36 : decode cX2_layLamps 36 = .ok (.iload_n 2, 1) := by decide +kernel
theorem dX2_layLamps_37 : decode cX2_layLamps 37 = .ok (.iaload, 1) := by decide +kernel
theorem dX2_layLamps_38 : decode cX2_layLamps 38 = .ok (.iadd, 1) := by decide +kernel
theorem dX2_layLamps_39 : decode cX2_layLamps 39 = .ok (.istore_n 1, 1) := by decide +kernel
theorem dX2_layLamps_40 : decode cX2_layLamps 40 = .ok (.aload_n 0, 1) := by decide +kernel
theorem dX2_layLamps_41 : decode cX2_layLamps 41 = .ok (.iload_n 1, 1) := by decide +kernel
theorem dX2_layLamps_42 : decode cX2_layLamps 42 = .ok (.iload_n 1, 1) := by decide +kernel
theorem dX2_layLamps_43 : decode cX2_layLamps 43 = .ok (.aload_n 0, 1) := by decide +kernel
theorem dX2_layLamps_44 : decode cX2_layLamps 44 = .ok (.getfield 22, 3) := by decide +kernel
theorem dX2_layLamps_47 : decode cX2_layLamps 47 = .ok (.iload_n 2, 1) := by decide +kernel
theorem dX2_layLamps_48 : decode cX2_layLamps 48 = .ok (.iaload, 1) := by decide +kernel
theorem dX2_layLamps_49 : decode cX2_layLamps 49 = .ok (.iadd, 1) := by decide +kernel
theorem dX2_layLamps_50 : decode cX2_layLamps 50 = .ok (.aload_n 0, 1) := by decide +kernel
theorem dX2_layLamps_51 : decode cX2_layLamps 51 = .ok (.getfield 15, 3) := by decide +kernel
theorem dX2_layLamps_54 : decode cX2_layLamps 54 = .ok (.iload_n 2, 1) := by decide +kernel
theorem dX2_layLamps_55 : decode cX2_layLamps 55 = .ok (.iaload, 1) := by decide +kernel
theorem dX2_layLamps_56 : decode cX2_layLamps 56 = .ok (.aload_n 0, 1) := by decide +kernel
theorem dX2_layLamps_57 : decode cX2_layLamps 57 = .ok (.getfield 15, 3) := by decide +kernel
theorem dX2_layLamps_60 : decode cX2_layLamps 60 = .ok (.aload_n 0, 1) := by decide +kernel
theorem dX2_layLamps_61 : decode cX2_layLamps 61 = .ok (.iload_n 2, 1) := by decide +kernel
theorem dX2_layLamps_62 : decode cX2_layLamps 62 = .ok (.invokevirtual 41, 3) := by decide +kernel
theorem dX2_layLamps_65 : decode cX2_layLamps 65 = .ok (.iaload, 1) := by decide +kernel
theorem dX2_layLamps_66 : decode cX2_layLamps 66 = .ok (.iand, 1) := by decide +kernel
theorem dX2_layLamps_67 : decode cX2_layLamps 67 = .ok (.invokevirtual 37, 3) := by decide +kernel
theorem dX2_layLamps_70 : decode cX2_layLamps 70 = .ok (.iload_n 1, 1) := by decide +kernel
theorem dX2_layLamps_71 : decode cX2_layLamps 71 = .ok (.aload_n 0, 1) := by decide +kernel
theorem dX2_layLamps_72 : decode cX2_layLamps 72 = .ok (.getfield 22, 3) := by decide +kernel
theorem dX2_layLamps_75 : decode cX2_layLamps 75 = .ok (.iload_n 2, 1) := by decide +kernel
theorem dX2_layLamps_76 : decode cX2_layLamps 76 = .ok (.iaload, 1) := by decide +kernel
theorem dX2_layLamps_77 : decode cX2_layLamps 77 = .ok (.iadd, 1) := by decide +kernel
theorem dX2_layLamps_78 : decode cX2_layLamps 78 = .ok (.istore_n 1, 1) := by decide +kernel
theorem dX2_layLamps_79 : decode cX2_layLamps 79 = .ok (.aload_n 0, 1) := by decide +kernel
theorem dX2_layLamps_80 : decode cX2_layLamps 80 = .ok (.getfield 25, 3) := by decide +kernel
theorem dX2_layLamps_83 : decode cX2_layLamps 83 = .ok (.iload_n 2, 1) := by decide +kernel
theorem dX2_layLamps_84 : decode cX2_layLamps 84 = .ok (.iload_n 1, 1) := by decide +kernel
theorem dX2_layLamps_85 : decode cX2_layLamps 85 = .ok (.iastore, 1) := by decide +kernel
theorem dX2_layLamps_86 : decode cX2_layLamps 86 = .ok (.iinc 2 1, 3) := by decide +kernel
theorem dX2_layLamps_89 : decode cX2_layLamps 89 = .ok (.goto (-85), 3) := by decide +kernel
theorem dX2_layLamps_92 : decode cX2_layLamps 92 = .ok (.return_, 1) := by decide +kernel
theorem dX2_layRow_0 : decode cX2_layRow 0 = .ok (.iload_n 1, 1) := by decide +kernel
theorem dX2_layRow_1 : decode cX2_layRow 1 = .ok (.istore 4, 2) := by decide +kernel
theorem dX2_layRow_3 : decode cX2_layRow 3 = .ok (.iload 4, 2) := by decide +kernel
theorem dX2_layRow_5 : decode cX2_layRow 5 = .ok (.iload_n 2, 1) := by decide +kernel
theorem dX2_layRow_6 : decode cX2_layRow 6 = .ok (.if_icmp .ge 24, 3) := by decide +kernel
theorem dX2_layRow_9 : decode cX2_layRow 9 = .ok (.iload 4, 2) := by decide +kernel
theorem dX2_layRow_11 : decode cX2_layRow 11 = .ok (.bipush 90, 2) := by decide +kernel
theorem dX2_layRow_13 : decode cX2_layRow 13 = .ok (.if_icmp .ge 17, 3) := by decide +kernel
theorem dX2_layRow_16 : decode cX2_layRow 16 = .ok (.aload_n 0, 1) := by decide +kernel
theorem dX2_layRow_17 : decode cX2_layRow 17 = .ok (.getfield 28, 3) := by decide +kernel
theorem dX2_layRow_20 : decode cX2_layRow 20 = .ok (.iload 4, 2) := by decide +kernel
theorem dX2_layRow_22 : decode cX2_layRow 22 = .ok (.iload_n 3, 1) := by decide +kernel
theorem dX2_layRow_23 : decode cX2_layRow 23 = .ok (.iastore, 1) := by decide +kernel
theorem dX2_layRow_24 : decode cX2_layRow 24 = .ok (.iinc 4 1, 3) := by decide +kernel
theorem dX2_layRow_27 : decode cX2_layRow 27 = .ok (.goto (-24), 3) := by decide +kernel
theorem dX2_layRow_30 : decode cX2_layRow 30 = .ok (.return_, 1) := by decide +kernel
theorem dX2_placeAt_0 : decode cX2_placeAt 0 = .ok (.iload_n 1, 1) := by decide +kernel
theorem dX2_placeAt_1 : decode cX2_placeAt 1 = .ok (.aload_n 0, 1) := by decide +kernel
theorem dX2_placeAt_2 : decode cX2_placeAt 2 = .ok (.getfield 45, 3) := by decide +kernel
theorem dX2_placeAt_5 : decode cX2_placeAt 5 = .ok (.isub, 1) := by decide +kernel
theorem dX2_placeAt_6 : decode cX2_placeAt 6 = .ok (.aload_n 0, 1) := by decide +kernel
theorem dX2_placeAt_7 : decode cX2_placeAt 7 = .ok (.getfield 9, 3) := by decide +kernel
theorem dX2_placeAt_10 : decode cX2_placeAt 10 = .ok (.invokestatic 48, 3) := by decide +kernel
theorem dX2_placeAt_13 : decode cX2_placeAt 13 = .ok (.ireturn, 1) := by decide +kernel
theorem dX2_stageOf_0 : decode cX2_stageOf 0 = .ok (.iconst 0, 1) := by decide +kernel
theorem dX2_stageOf_1 : decode cX2_stageOf 1 = .ok (.istore_n 2, 1) := by decide +kernel
theorem dX2_stageOf_2 : decode cX2_stageOf 2 = .ok (.iload_n 2, 1) := by decide +kernel
theorem dX2_stageOf_3 : decode cX2_stageOf 3 = .ok (.aload_n 0, 1) := by decide +kernel
theorem dX2_stageOf_4 : decode cX2_stageOf 4 = .ok (.getfield 31, 3) := by decide +kernel
theorem dX2_stageOf_7 : decode cX2_stageOf 7 = .ok (.if_icmp .ge 21, 3) := by decide +kernel
theorem dX2_stageOf_10 : decode cX2_stageOf 10 = .ok (.iload_n 1, 1) := by decide +kernel
theorem dX2_stageOf_11 : decode cX2_stageOf 11 = .ok (.aload_n 0, 1) := by decide +kernel
theorem dX2_stageOf_12 : decode cX2_stageOf 12 = .ok (.getfield 25, 3) := by decide +kernel
theorem dX2_stageOf_15 : decode cX2_stageOf 15 = .ok (.iload_n 2, 1) := by decide +kernel
theorem dX2_stageOf_16 : decode cX2_stageOf 16 = .ok (.iaload, 1) := by decide +kernel
theorem dX2_stageOf_17 : decode cX2_stageOf 17 = .ok (.if_icmp .ge 5, 3) := by decide +kernel
theorem dX2_stageOf_20 : decode cX2_stageOf 20 = .ok (.iload_n 2, 1) := by decide +kernel
theorem dX2_stageOf_21 : decode cX2_stageOf 21 = .ok (.ireturn, 1) := by decide +kernel
theorem dX2_stageOf_22 : decode cX2_stageOf 22 = .ok (.iinc 2 1, 3) := by decide +kernel
theorem dX2_stageOf_25 : decode cX2_stageOf 25 = .ok (.goto (-23), 3) := by decide +kernel
theorem dX2_stageOf_28 : decode cX2_stageOf 28 = .ok (.aload_n 0, 1) := by decide +kernel
theorem dX2_stageOf_29 : decode cX2_stageOf 29 = .ok (.getfield 31, 3) := by decide +kernel
theorem dX2_stageOf_32 : decode cX2_stageOf 32 = .ok (.iconst 1, 1) := by decide +kernel
theorem dX2_stageOf_33 : decode cX2_stageOf 33 = .ok (.isub, 1) := by decide +kernel
theorem dX2_stageOf_34 : decode cX2_stageOf 34 = .ok (.ireturn, 1) := by decide +kernel
theorem dX2_shows_0 : decode cX2_shows 0 = .ok (.aload_n 0, 1) := by decide +kernel
theorem dX2_shows_1 : decode cX2_shows 1 = .ok (.getfield 28, 3) := by decide +kernel
theorem dX2_shows_4 : decode cX2_shows 4 = .ok (.aload_n 0, 1) := by decide +kernel
theorem dX2_shows_5 : decode cX2_shows 5 = .ok (.iload_n 2, 1) := by decide +kernel
theorem dX2_shows_6 : decode cX2_shows 6 = .ok (.invokevirtual 54, 3) := by decide +kernel
theorem dX2_shows_9 : decode cX2_shows 9 = .ok (.iaload, 1) := by decide +kernel
theorem dX2_shows_10 : decode cX2_shows 10 = .ok (.iload_n 1, 1) := by decide +kernel
theorem dX2_shows_11 : decode cX2_shows 11 = .ok (.ishr, 1) := by decide +kernel
theorem dX2_shows_12 : decode cX2_shows 12 = .ok (.iconst 1, 1) := by decide +kernel
theorem dX2_shows_13 : decode cX2_shows 13 = .ok (.iand, 1) := by decide +kernel
theorem dX2_shows_14 : decode cX2_shows 14 = .ok (.ifCond .eq 7, 3) := by decide +kernel
theorem dX2_shows_17 : decode cX2_shows 17 = .ok (.iconst 1, 1) := by decide +kernel
theorem dX2_shows_18 : decode cX2_shows 18 = .ok (.goto 4, 3) := by decide +kernel
theorem dX2_shows_21 : decode cX2_shows 21 = .ok (.iconst 0, 1) := by decide +kernel
theorem dX2_shows_22 : decode cX2_shows 22 = .ok (.ireturn, 1) := by decide +kernel
theorem dX2_stagesWith_0 : decode cX2_stagesWith 0 = .ok (.iconst 0, 1) := by decide +kernel
theorem dX2_stagesWith_1 : decode cX2_stagesWith 1 = .ok (.istore_n 2, 1) := by decide +kernel
theorem dX2_stagesWith_2 : decode cX2_stagesWith 2 = .ok (.iconst 0, 1) := by decide +kernel
theorem dX2_stagesWith_3 : decode cX2_stagesWith 3 = .ok (.istore_n 3, 1) := by decide +kernel
theorem dX2_stagesWith_4 : decode cX2_stagesWith 4 = .ok (.iload_n 3, 1) := by decide +kernel
theorem dX2_stagesWith_5 : decode cX2_stagesWith 5 = .ok (.aload_n 0, 1) := by decide +kernel
theorem dX2_stagesWith_6 : decode cX2_stagesWith 6 = .ok (.getfield 31, 3) := by decide +kernel
theorem dX2_stagesWith_9 : decode cX2_stagesWith 9 = .ok (.if_icmp .ge 28, 3) := by decide +kernel
theorem dX2_stagesWith_12 : decode cX2_stagesWith 12 = .ok (.aload_n 0, 1) := by decide +kernel
theorem dX2_stagesWith_13 : decode cX2_stagesWith 13 = .ok (.getfield 15, 3) := by decide +kernel
theorem dX2_stagesWith_16 : decode cX2_stagesWith 16 = .ok (.iload_n 3, 1) := by decide +kernel
theorem dX2_stagesWith_17 : decode cX2_stagesWith 17 = .ok (.iaload, 1) := by decide +kernel
theorem dX2_stagesWith_18 : decode cX2_stagesWith 18 = .ok (.iload_n 1, 1) := by decide +kernel
theorem dX2_stagesWith_19 : decode cX2_stagesWith 19 = .ok (.ishr, 1) := by decide +kernel
theorem dX2_stagesWith_20 : decode cX2_stagesWith 20 = .ok (.iconst 1, 1) := by decide +kernel
theorem dX2_stagesWith_21 : decode cX2_stagesWith 21 = .ok (.iand, 1) := by decide +kernel
theorem dX2_stagesWith_22 : decode cX2_stagesWith 22 = .ok (.ifCond .eq 9, 3) := by decide +kernel
theorem dX2_stagesWith_25 : decode cX2_stagesWith 25 = .ok (.iload_n 2, 1) := by decide +kernel
theorem dX2_stagesWith_26 : decode cX2_stagesWith 26 = .ok (.iconst 1, 1) := by decide +kernel
theorem dX2_stagesWith_27 : decode cX2_stagesWith 27 = .ok (.iload_n 3, 1) := by decide +kernel
theorem dX2_stagesWith_28 : decode cX2_stagesWith 28 = .ok (.ishl, 1) := by decide +kernel
theorem dX2_stagesWith_29 : decode cX2_stagesWith 29 = .ok (.ior, 1) := by decide +kernel
theorem dX2_stagesWith_30 : decode cX2_stagesWith 30 = .ok (.istore_n 2, 1) := by decide +kernel
theorem dX2_stagesWith_31 : decode cX2_stagesWith 31 = .ok (.iinc 3 1, 3) := by decide +kernel
theorem dX2_stagesWith_34 : decode cX2_stagesWith 34 = .ok (.goto (-30), 3) := by decide +kernel
theorem dX2_stagesWith_37 : decode cX2_stagesWith 37 = .ok (.iload_n 2, 1) := by decide +kernel
theorem dX2_stagesWith_38 : decode cX2_stagesWith 38 = .ok (.ireturn, 1) := by decide +kernel
theorem dX3_init_0 : decode cX3_init 0 = .ok (.aload_n 0, 1) := by decide +kernel
theorem dX3_init_1 : decode cX3_init 1 = .ok (.invokespecial 3, 3) := by decide +kernel
theorem dX3_init_4 : decode cX3_init 4 = .ok (.aload_n 0, 1) := by decide +kernel
theorem dX3_init_5 : decode cX3_init 5 = .ok (.iload_n 1, 1) := by decide +kernel
theorem dX3_init_6 : decode cX3_init 6 = .ok (.putfield 9, 3) := by decide +kernel
theorem dX3_init_9 : decode cX3_init 9 = .ok (.aload_n 0, 1) := by decide +kernel
theorem dX3_init_10 : decode cX3_init 10 = .ok (.iload_n 2, 1) := by decide +kernel
theorem dX3_init_11 : decode cX3_init 11 = .ok (.putfield 15, 3) := by decide +kernel
theorem dX3_init_14 : decode cX3_init 14 = .ok (.aload_n 0, 1) := by decide +kernel
theorem dX3_init_15 : decode cX3_init 15 = .ok (.iload_n 1, 1) := by decide +kernel
theorem dX3_init_16 : decode cX3_init 16 = .ok (.iconst 2, 1) := by decide +kernel
theorem dX3_init_17 : decode cX3_init 17 = .ok (.if_icmp .ne 9, 3) := by decide +kernel
theorem dX3_init_20 : decode cX3_init 20 = .ok (.sipush 3600, 3) := by decide +kernel
theorem dX3_init_23 : decode cX3_init 23 = .ok (.goto 15, 3) := by decide +kernel
theorem dX3_init_26 : decode cX3_init 26 = .ok (.iload_n 1, 1) := by decide +kernel
theorem dX3_init_27 : decode cX3_init 27 = .ok (.iconst 3, 1) := by decide +kernel
theorem dX3_init_28 : decode cX3_init 28 = .ok (.if_icmp .ne 9, 3) := by decide +kernel
theorem dX3_init_31 : decode cX3_init 31 = .ok (.sipush 1200, 3) := by decide +kernel
theorem dX3_init_34 : decode cX3_init 34 = .ok (.goto 4, 3) := by decide +kernel
theorem dX3_init_37 : decode cX3_init 37 = .ok (.iload_n 3, 1) := by decide +kernel
theorem dX3_init_38 : decode cX3_init 38 = .ok (.putfield 18, 3) := by decide +kernel
theorem dX3_init_41 : decode cX3_init 41 = .ok (.aload_n 0, 1) := by decide +kernel
theorem dX3_init_42 : decode cX3_init 42 = .ok (.iload_n 1, 1) := by decide +kernel
theorem dX3_init_43 : decode cX3_init 43 = .ok (.iconst 2, 1) := by decide +kernel
theorem dX3_init_44 : decode cX3_init 44 = .ok (.if_icmp .ne 13, 3) := by decide +kernel
theorem dX3_init_47 : decode cX3_init 47 = .ok (.bipush 8, 2) := by decide +kernel
theorem dX3_init_49 : decode cX3_init 49 = .ok (.iload 4, 2) := by decide +kernel
theorem dX3_init_51 : decode cX3_init 51 = .ok (.invokestatic 21, 3) := by decide +kernel
theorem dX3_init_54 : decode cX3_init 54 = .ok (.goto 19, 3) := by decide +kernel
theorem dX3_init_57 : decode cX3_init 57 = .ok (.iload_n 1, 1) := by decide +kernel
theorem dX3_init_58 : decode cX3_init 58 = .ok (.iconst 1, 1) := by decide +kernel
theorem dX3_init_59 : decode cX3_init 59 = .ok (.if_icmp .ne 12, 3) := by decide +kernel
theorem dX3_init_62 : decode cX3_init 62 = .ok (.iconst 5, 1) := by decide +kernel
theorem dX3_init_63 : decode cX3_init 63 = .ok (.iload 4, 2) := by decide +kernel
theorem dX3_init_65 : decode cX3_init 65 = .ok (.invokestatic 21, 3) := by decide +kernel
theorem dX3_init_68 : decode cX3_init 68 = .ok (.goto 5, 3) := by decide +kernel
theorem dX3_init_71 : decode cX3_init 71 = .ok (.iload 4, 2) := by decide +kernel
theorem dX3_init_73 : decode cX3_init 73 = .ok (.putfield 27, 3) := by decide +kernel
theorem dX3_init_76 : decode cX3_init 76 = .ok (.return_, 1) := by decide +kernel
theorem dX3_pass_0 : decode cX3_pass 0 = .ok (.aload_n 0, 1) := by decide +kernel
theorem dX3_pass_1 : decode cX3_pass 1 = .ok (.dup, 1) := by decide +kernel
theorem dX3_pass_2 : decode cX3_pass 2 = .ok (.getfield 30, 3) := by decide +kernel
theorem dX3_pass_5 : decode cX3_pass 5 = .ok (.aload_n 0, 1) := by decide +kernel
theorem dX3_pass_6 : decode cX3_pass 6 = .ok (.getfield 15, 3) := by decide +kernel
theorem dX3_pass_9 : decode cX3_pass 9 = .ok (.iadd, 1) := by decide +kernel
theorem dX3_pass_10 : decode cX3_pass 10 = .ok (.putfield 30, 3) := by decide +kernel
theorem dX3_pass_13 : decode cX3_pass 13 = .ok (.aload_n 0, 1) := by decide +kernel
theorem dX3_pass_14 : decode cX3_pass 14 = .ok (.getfield 30, 3) := by decide +kernel
theorem dX3_pass_17 : decode cX3_pass 17 = .ok (.sipush 3600, 3) := by decide +kernel
theorem dX3_pass_20 : decode cX3_pass 20 = .ok (.if_icmp .lt 20, 3) := by decide +kernel
theorem dX3_pass_23 : decode cX3_pass 23 = .ok (.aload_n 0, 1) := by decide +kernel
theorem dX3_pass_24 : decode cX3_pass 24 = .ok (.dup, 1) := by decide +kernel
theorem dX3_pass_25 : decode cX3_pass 25 = .ok (.getfield 30, 3) := by decide +kernel
theorem dX3_pass_28 : decode cX3_pass 28 = .ok (.sipush 3600, 3) := by decide +kernel
theorem dX3_pass_31 : decode cX3_pass 31 = .ok (.isub, 1) := by decide +kernel
theorem dX3_pass_32 : decode cX3_pass 32 = .ok (.putfield 30, 3) := by decide +kernel
theorem dX3_pass_35 : decode cX3_pass 35 = .ok (.aload_n 0, 1) := by decide +kernel
theorem dX3_pass_36 : decode cX3_pass 36 = .ok (.iload_n 2, 1) := by decide +kernel
theorem dX3_pass_37 : decode cX3_pass 37 = .ok (.invokevirtual 33, 3) := by decide +kernel
theorem dX3_pass_40 : decode cX3_pass 40 = .ok (.aload_n 0, 1) := by decide +kernel
theorem dX3_pass_41 : decode cX3_pass 41 = .ok (.getfield 37, 3) := by decide +kernel
theorem dX3_pass_44 : decode cX3_pass 44 = .ok (.astore_n 3, 1) := by decide +kernel
theorem dX3_pass_45 : decode cX3_pass 45 = .ok (.aload_n 3, 1) := by decide +kernel
theorem dX3_pass_46 : decode cX3_pass 46 = .ok (.ifnull 24, 3) := by decide +kernel
theorem dX3_pass_49 : decode cX3_pass 49 = .ok (.aload_n 3, 1) := by decide +kernel
theorem dX3_pass_50 : decode cX3_pass 50 = .ok (.iload_n 1, 1) := by decide +kernel
theorem dX3_pass_51 : decode cX3_pass 51 = .ok (.invokevirtual 41, 3) := by decide +kernel
theorem dX3_pass_54 : decode cX3_pass 54 = .ok (.ifCond .eq 8, 3) := by decide +kernel
theorem dX3_pass_57 : decode cX3_pass 57 = .ok (.aload_n 0, 1) := by decide +kernel
theorem dX3_pass_58 : decode cX3_pass 58 = .ok (.iload_n 2, 1) := by decide +kernel
theorem dX3_pass_59 : decode cX3_pass 59 = .ok (.invokevirtual 33, 3) := by decide +kernel
theorem dX3_pass_62 : decode cX3_pass 62 = .ok (.aload_n 3, 1) := by decide +kernel
theorem dX3_pass_63 : decode cX3_pass 63 = .ok (.getfield 47, 3) := by decide +kernel
theorem dX3_pass_66 : decode cX3_pass 66 = .ok (.astore_n 3, 1) := by decide +kernel
theorem dX3_pass_67 : decode cX3_pass 67 = .ok (.goto (-22), 3) := by decide +kernel
theorem dX3_pass_70 : decode cX3_pass 70 = .ok (.aload_n 0, 1) := by decide +kernel
theorem dX3_pass_71 : decode cX3_pass 71 = .ok (.iload_n 1, 1) := by decide +kernel
theorem dX3_pass_72 : decode cX3_pass 72 = .ok (.iload_n 2, 1) := by decide +kernel
theorem dX3_pass_73 : decode cX3_pass 73 = .ok (.invokevirtual 50, 3) := by decide +kernel
theorem dX3_pass_76 : decode cX3_pass 76 = .ok (.aload_n 0, 1) := by decide +kernel
theorem dX3_pass_77 : decode cX3_pass 77 = .ok (.dup, 1) := by decide +kernel
theorem dX3_pass_78 : decode cX3_pass 78 = .ok (.getfield 54, 3) := by decide +kernel
theorem dX3_pass_81 : decode cX3_pass 81 = .ok (.aload_n 0, 1) := by decide +kernel
theorem dX3_pass_82 : decode cX3_pass 82 = .ok (.getfield 58, 3) := by decide +kernel
theorem dX3_pass_85 : decode cX3_pass 85 = .ok (.i2l, 1) := by decide +kernel
theorem dX3_pass_86 : decode cX3_pass 86 = .ok (.ladd, 1) := by decide +kernel
theorem dX3_pass_87 : decode cX3_pass 87 = .ok (.putfield 54, 3) := by decide +kernel
theorem dX3_pass_90 : decode cX3_pass 90 = .ok (.aload_n 0, 1) := by decide +kernel
theorem dX3_pass_91 : decode cX3_pass 91 = .ok (.aload_n 0, 1) := by decide +kernel
theorem dX3_pass_92 : decode cX3_pass 92 = .ok (.getfield 61, 3) := by decide +kernel
theorem dX3_pass_95 : decode cX3_pass 95 = .ok (.aload_n 0, 1) := by decide +kernel
theorem dX3_pass_96 : decode cX3_pass 96 = .ok (.getfield 58, 3) := by decide +kernel
theorem dX3_pass_99 : decode cX3_pass 99 = .ok (.invokestatic 21, 3) := by decide +kernel
theorem dX3_pass_102 : decode cX3_pass 102 = .ok (.putfield 61, 3) := by decide +kernel
theorem dX3_pass_105 : decode cX3_pass 105 = .ok (.return_, 1) := by decide +kernel
theorem dX3_come_0 : decode cX3_come 0 = .ok (.iload_n 1, 1) := by decide +kernel
theorem dX3_come_1 : decode cX3_come 1 = .ok (.ifCond .eq 10, 3) := by decide +kernel
theorem dX3_come_4 : decode cX3_come 4 = .ok (.aload_n 0, 1) := by decide +kernel
theorem dX3_come_5 : decode cX3_come 5 = .ok (.getfield 58, 3) := by decide +kernel
theorem dX3_come_8 : decode cX3_come 8 = .ok (.ifCond .le 13, 3) := by decide +kernel
theorem dX3_come_11 : decode cX3_come 11 = .ok (.aload_n 0, 1) := by decide +kernel
theorem dX3_come_12 : decode cX3_come 12 = .ok (.dup, 1) := by decide +kernel
theorem dX3_come_13 : decode cX3_come 13 = .ok (.getfield 64, 3) := by decide +kernel
theorem dX3_come_16 : decode cX3_come 16 = .ok (.iconst 1, 1) := by decide +kernel
theorem dX3_come_17 : decode cX3_come 17 = .ok (.iadd, 1) := by decide +kernel
theorem dX3_come_18 : decode cX3_come 18 = .ok (.putfield 64, 3) := by decide +kernel
theorem dX3_come_21 : decode cX3_come 21 = .ok (.aload_n 0, 1) := by decide +kernel
theorem dX3_come_22 : decode cX3_come 22 = .ok (.dup, 1) := by decide +kernel
theorem dX3_come_23 : decode cX3_come 23 = .ok (.getfield 67, 3) := by decide +kernel
theorem dX3_come_26 : decode cX3_come 26 = .ok (.iconst 1, 1) := by decide +kernel
theorem dX3_come_27 : decode cX3_come 27 = .ok (.iadd, 1) := by decide +kernel
theorem dX3_come_28 : decode cX3_come 28 = .ok (.putfield 67, 3) := by decide +kernel
theorem dX3_come_31 : decode cX3_come 31 = .ok (.aload_n 0, 1) := by decide +kernel
theorem dX3_come_32 : decode cX3_come 32 = .ok (.dup, 1) := by decide +kernel
theorem dX3_come_33 : decode cX3_come 33 = .ok (.getfield 58, 3) := by decide +kernel
theorem dX3_come_36 : decode cX3_come 36 = .ok (.iconst 1, 1) := by decide +kernel
theorem dX3_come_37 : decode cX3_come 37 = .ok (.iadd, 1) := by decide +kernel
theorem dX3_come_38 : decode cX3_come 38 = .ok (.putfield 58, 3) := by decide +kernel
theorem dX3_come_41 : decode cX3_come 41 = .ok (.return_, 1) := by decide +kernel
theorem dX3_leave_0 : decode cX3_leave 0 = .ok (.aload_n 0, 1) := by decide +kernel
theorem dX3_leave_1 : decode cX3_leave 1 = .ok (.iload_n 2, 1) := by decide +kernel
theorem dX3_leave_2 : decode cX3_leave 2 = .ok (.ifCond .eq 15, 3) := by decide +kernel
theorem dX3_leave_5 : decode cX3_leave 5 = .ok (.aload_n 0, 1) := by decide +kernel
theorem dX3_leave_6 : decode cX3_leave 6 = .ok (.getfield 70, 3) := by decide +kernel
theorem dX3_leave_9 : decode cX3_leave 9 = .ok (.aload_n 0, 1) := by decide +kernel
theorem dX3_leave_10 : decode cX3_leave 10 = .ok (.getfield 18, 3) := by decide +kernel
theorem dX3_leave_13 : decode cX3_leave 13 = .ok (.iadd, 1) := by decide +kernel
theorem dX3_leave_14 : decode cX3_leave 14 = .ok (.goto 4, 3) := by decide +kernel
theorem dX3_leave_17 : decode cX3_leave 17 = .ok (.iconst 0, 1) := by decide +kernel
theorem dX3_leave_18 : decode cX3_leave 18 = .ok (.putfield 70, 3) := by decide +kernel
theorem dX3_leave_21 : decode cX3_leave 21 = .ok (.aload_n 0, 1) := by decide +kernel
theorem dX3_leave_22 : decode cX3_leave 22 = .ok (.getfield 70, 3) := by decide +kernel
theorem dX3_leave_25 : decode cX3_leave 25 = .ok (.sipush 3600, 3) := by decide +kernel
theorem dX3_leave_28 : decode cX3_leave 28 = .ok (.if_icmp .lt 74, 3) := by decide +kernel
theorem dX3_leave_31 : decode cX3_leave 31 = .ok (.aload_n 0, 1) := by decide +kernel
theorem dX3_leave_32 : decode cX3_leave 32 = .ok (.getfield 58, 3) := by decide +kernel
theorem dX3_leave_35 : decode cX3_leave 35 = .ok (.ifCond .le 67, 3) := by decide +kernel
theorem dX3_leave_38 : decode cX3_leave 38 = .ok (.aload_n 0, 1) := by decide +kernel
theorem dX3_leave_39 : decode cX3_leave 39 = .ok (.getfield 73, 3) := by decide +kernel
theorem dX3_leave_42 : decode cX3_leave 42 = .ok (.ifnull 13, 3) := by decide +kernel
theorem dX3_leave_45 : decode cX3_leave 45 = .ok (.aload_n 0, 1) := by decide +kernel
theorem dX3_leave_46 : decode cX3_leave 46 = .ok (.getfield 73, 3) := by decide +kernel
theorem dX3_leave_49 : decode cX3_leave 49 = .ok (.invokevirtual 76, 3) := by decide +kernel
theorem dX3_leave_52 : decode cX3_leave 52 = .ok (.ifCond .ne 50, 3) := by decide +kernel
theorem dX3_leave_55 : decode cX3_leave 55 = .ok (.aload_n 0, 1) := by decide +kernel
theorem dX3_leave_56 : decode cX3_leave 56 = .ok (.dup, 1) := by decide +kernel
theorem dX3_leave_57 : decode cX3_leave 57 = .ok (.getfield 70, 3) := by decide +kernel
theorem dX3_leave_60 : decode cX3_leave 60 = .ok (.sipush 3600, 3) := by decide +kernel
theorem dX3_leave_63 : decode cX3_leave 63 = .ok (.isub, 1) := by decide +kernel
theorem dX3_leave_64 : decode cX3_leave 64 = .ok (.putfield 70, 3) := by decide +kernel
theorem dX3_leave_67 : decode cX3_leave 67 = .ok (.aload_n 0, 1) := by decide +kernel
theorem dX3_leave_68 : decode cX3_leave 68 = .ok (.dup, 1) := by decide +kernel
theorem dX3_leave_69 : decode cX3_leave 69 = .ok (.getfield 58, 3) := by decide +kernel
theorem dX3_leave_72 : decode cX3_leave 72 = .ok (.iconst 1, 1) := by decide +kernel
theorem dX3_leave_73 : decode cX3_leave 73 = .ok (.isub, 1) := by decide +kernel
theorem dX3_leave_74 : decode cX3_leave 74 = .ok (.putfield 58, 3) := by decide +kernel
theorem dX3_leave_77 : decode cX3_leave 77 = .ok (.aload_n 0, 1) := by decide +kernel
theorem dX3_leave_78 : decode cX3_leave 78 = .ok (.dup, 1) := by decide +kernel
theorem dX3_leave_79 : decode cX3_leave 79 = .ok (.getfield 80, 3) := by decide +kernel
theorem dX3_leave_82 : decode cX3_leave 82 = .ok (.iconst 1, 1) := by decide +kernel
theorem dX3_leave_83 : decode cX3_leave 83 = .ok (.iadd, 1) := by decide +kernel
theorem dX3_leave_84 : decode cX3_leave 84 = .ok (.putfield 80, 3) := by decide +kernel
theorem dX3_leave_87 : decode cX3_leave 87 = .ok (.aload_n 0, 1) := by decide +kernel
theorem dX3_leave_88 : decode cX3_leave 88 = .ok (.getfield 73, 3) := by decide +kernel
theorem dX3_leave_91 : decode cX3_leave 91 = .ok (.ifnull 11, 3) := by decide +kernel
theorem dX3_leave_94 : decode cX3_leave 94 = .ok (.aload_n 0, 1) := by decide +kernel
theorem dX3_leave_95 : decode cX3_leave 95 = .ok (.getfield 73, 3) := by decide +kernel
theorem dX3_leave_98 : decode cX3_leave 98 = .ok (.iload_n 1, 1) := by decide +kernel
theorem dX3_leave_99 : decode cX3_leave 99 = .ok (.invokevirtual 83, 3) := by decide +kernel
theorem dX3_leave_102 : decode cX3_leave 102 = .ok (.aload_n 0, 1) := by decide +kernel
theorem dX3_leave_103 : decode cX3_leave 103 = .ok (.aload_n 0, 1) := by decide +kernel
theorem dX3_leave_104 : decode cX3_leave 104 = .ok (.getfield 70, 3) := by decide +kernel
theorem dX3_leave_107 : decode cX3_leave 107 = .ok (.sipush 3600, 3) := by decide +kernel
theorem dX3_leave_110 : decode cX3_leave 110 = .ok (.invokestatic 87, 3) := by decide +kernel
theorem dX3_leave_113 : decode cX3_leave 113 = .ok (.putfield 70, 3) := by decide +kernel
theorem dX3_leave_116 : decode cX3_leave 116 = .ok (.return_, 1) := by decide +kernel
theorem dX3_toldOfQueue_0 : decode cX3_toldOfQueue 0 = .ok (.iload_n 1, 1) := by decide +kernel
theorem dX3_toldOfQueue_1 : decode cX3_toldOfQueue 1 = .ok (.tableswitch 140 0 10 #[59, 65, 71, 77, 82, 88, 94, 116, 122, 128, 134], 59) := by decide +kernel
theorem dX3_toldOfQueue_60 : decode cX3_toldOfQueue 60 = .ok (.aload_n 0, 1) := by decide +kernel
theorem dX3_toldOfQueue_61 : decode cX3_toldOfQueue 61 = .ok (.getfield 58, 3) := by decide +kernel
theorem dX3_toldOfQueue_64 : decode cX3_toldOfQueue 64 = .ok (.i2l, 1) := by decide +kernel
theorem dX3_toldOfQueue_65 : decode cX3_toldOfQueue 65 = .ok (.lreturn, 1) := by decide +kernel
theorem dX3_toldOfQueue_66 : decode cX3_toldOfQueue 66 = .ok (.aload_n 0, 1) := by decide +kernel
theorem dX3_toldOfQueue_67 : decode cX3_toldOfQueue 67 = .ok (.getfield 67, 3) := by decide +kernel
theorem dX3_toldOfQueue_70 : decode cX3_toldOfQueue 70 = .ok (.i2l, 1) := by decide +kernel
theorem dX3_toldOfQueue_71 : decode cX3_toldOfQueue 71 = .ok (.lreturn, 1) := by decide +kernel
theorem dX3_toldOfQueue_72 : decode cX3_toldOfQueue 72 = .ok (.aload_n 0, 1) := by decide +kernel
theorem dX3_toldOfQueue_73 : decode cX3_toldOfQueue 73 = .ok (.getfield 80, 3) := by decide +kernel
theorem dX3_toldOfQueue_76 : decode cX3_toldOfQueue 76 = .ok (.i2l, 1) := by decide +kernel
theorem dX3_toldOfQueue_77 : decode cX3_toldOfQueue 77 = .ok (.lreturn, 1) := by decide +kernel
theorem dX3_toldOfQueue_78 : decode cX3_toldOfQueue 78 = .ok (.aload_n 0, 1) := by decide +kernel
theorem dX3_toldOfQueue_79 : decode cX3_toldOfQueue 79 = .ok (.getfield 54, 3) := by decide +kernel
theorem dX3_toldOfQueue_82 : decode cX3_toldOfQueue 82 = .ok (.lreturn, 1) := by decide +kernel
theorem dX3_toldOfQueue_83 : decode cX3_toldOfQueue 83 = .ok (.aload_n 0, 1) := by decide +kernel
theorem dX3_toldOfQueue_84 : decode cX3_toldOfQueue 84 = .ok (.getfield 64, 3) := by decide +kernel
theorem dX3_toldOfQueue_87 : decode cX3_toldOfQueue 87 = .ok (.i2l, 1) := by decide +kernel
theorem dX3_toldOfQueue_88 : decode cX3_toldOfQueue 88 = .ok (.lreturn, 1) := by decide +kernel
theorem dX3_toldOfQueue_89 : decode cX3_toldOfQueue 89 = .ok (.aload_n 0, 1) := by decide +kernel
theorem dX3_toldOfQueue_90 : decode cX3_toldOfQueue 90 = .ok (.getfield 61, 3) := by decide +kernel
theorem dX3_toldOfQueue_93 : decode cX3_toldOfQueue 93 = .ok (.i2l, 1) := by decide +kernel
theorem dX3_toldOfQueue_94 : decode cX3_toldOfQueue 94 = .ok (.lreturn, 1) := by decide +kernel
theorem dX3_toldOfQueue_95 : decode cX3_toldOfQueue 95 = .ok (.aload_n 0, 1) := by decide +kernel
theorem dX3_toldOfQueue_96 : decode cX3_toldOfQueue 96 = .ok (.getfield 73, 3) := by decide +kernel
theorem dX3_toldOfQueue_99 : decode cX3_toldOfQueue 99 = .ok (.ifnonnull 9, 3) := by decide +kernel
theorem dX3_toldOfQueue_102 : decode cX3_toldOfQueue 102 = .ok (.ldc2_w 90, 3) := by decide +kernel
theorem dX3_toldOfQueue_105 : decode cX3_toldOfQueue 105 = .ok (.goto 11, 3) := by decide +kernel
theorem dX3_toldOfQueue_108 : decode cX3_toldOfQueue 108 = .ok (.aload_n 0, 1) := by decide +kernel
theorem dX3_toldOfQueue_109 : decode cX3_toldOfQueue 109 = .ok (.getfield 73, 3) := by decide +kernel
theorem dX3_toldOfQueue_112 : decode cX3_toldOfQueue 112 = .ok (.getfield 92, 3) := by decide +kernel
theorem dX3_toldOfQueue_115 : decode cX3_toldOfQueue 115 = .ok (.i2l, 1) := by decide +kernel
theorem dX3_toldOfQueue_116 : decode cX3_toldOfQueue 116 = .ok (.lreturn, 1) := by decide +kernel
theorem dX3_toldOfQueue_117 : decode cX3_toldOfQueue 117 = .ok (.aload_n 0, 1) := by decide +kernel
theorem dX3_toldOfQueue_118 : decode cX3_toldOfQueue 118 = .ok (.getfield 9, 3) := by decide +kernel
theorem dX3_toldOfQueue_121 : decode cX3_toldOfQueue 121 = .ok (.i2l, 1) := by decide +kernel
theorem dX3_toldOfQueue_122 : decode cX3_toldOfQueue 122 = .ok (.lreturn, 1) := by decide +kernel
theorem dX3_toldOfQueue_123 : decode cX3_toldOfQueue 123 = .ok (.aload_n 0, 1) := by decide +kernel
theorem dX3_toldOfQueue_124 : decode cX3_toldOfQueue 124 = .ok (.getfield 18, 3) := by decide +kernel
theorem dX3_toldOfQueue_127 : decode cX3_toldOfQueue 127 = .ok (.i2l, 1) := by decide +kernel
