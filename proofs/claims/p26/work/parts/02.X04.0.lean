theorem dX4_init_0 : decode cX4_init 0 = .ok (.aload_n 0, 1) := by decide +kernel
theorem dX4_init_1 : decode cX4_init 1 = .ok (.invokespecial 3, 3) := by decide +kernel
theorem dX4_init_4 : decode cX4_init 4 = .ok (.aload_n 0, 1) := by decide +kernel
theorem dX4_init_5 : decode cX4_init 5 = .ok (.sipush 429, 3) := by decide +kernel
theorem dX4_init_8 : decode cX4_init 8 = .ok (.newarray .int, 2) := by decide +kernel
theorem dX4_init_10 : decode cX4_init 10 = .ok (.putfield 9, 3) := by decide +kernel
theorem dX4_init_13 : decode cX4_init 13 = .ok (.aload_n 0, 1) := by decide +kernel
theorem dX4_init_14 : decode cX4_init 14 = .ok (.sipush 429, 3) := by decide +kernel
theorem dX4_init_17 : decode cX4_init 17 = .ok (.newarray .int, 2) := by decide +kernel
theorem dX4_init_19 : decode cX4_init 19 = .ok (.putfield 15, 3) := by decide +kernel
theorem dX4_init_22 : decode cX4_init 22 = .ok (.aload_n 0, 1) := by decide +kernel
theorem dX4_init_23 : decode cX4_init 23 = .ok (.sipush 429, 3) := by decide +kernel
theorem dX4_init_26 : decode cX4_init 26 = .ok (.newarray .int, 2) := by decide +kernel
theorem dX4_init_28 : decode cX4_init 28 = .ok (.putfield 18, 3) := by decide +kernel
theorem dX4_init_31 : decode cX4_init 31 = .ok (.return_, 1) := by decide +kernel
theorem dX4_measure_0 : decode cX4_measure 0 = .ok (.iconst 0, 1) := by decide +kernel
theorem dX4_measure_1 : decode cX4_measure 1 = .ok (.istore_n 3, 1) := by decide +kernel
theorem dX4_measure_2 : decode cX4_measure 2 = .ok (.iload_n 3, 1) := by decide +kernel
theorem dX4_measure_3 : decode cX4_measure 3 = .ok (.sipush 429, 3) := by decide +kernel
theorem dX4_measure_6 : decode cX4_measure 6 = .ok (.if_icmp .ge 16, 3) := by decide +kernel
theorem dX4_measure_9 : decode cX4_measure 9 = .ok (.aload_n 0, 1) := by decide +kernel
theorem dX4_measure_10 : decode cX4_measure 10 = .ok (.getfield 9, 3) := by decide +kernel
theorem dX4_measure_13 : decode cX4_measure 13 = .ok (.iload_n 3, 1) := by decide +kernel
theorem dX4_measure_14 : decode cX4_measure 14 = .ok (.iconst (-1), 1) := by decide +kernel
theorem dX4_measure_15 : decode cX4_measure 15 = .ok (.iastore, 1) := by decide +kernel
theorem dX4_measure_16 : decode cX4_measure 16 = .ok (.iinc 3 1, 3) := by decide +kernel
theorem dX4_measure_19 : decode cX4_measure 19 = .ok (.goto (-17), 3) := by decide +kernel
theorem dX4_measure_22 : decode cX4_measure 22 = .ok (.aload_n 0, 1) := by decide +kernel
theorem dX4_measure_23 : decode cX4_measure 23 = .ok (.iconst 0, 1) := by decide +kernel
theorem dX4_measure_24 : decode cX4_measure 24 = .ok (.putfield 21, 3) := by decide +kernel
theorem dX4_measure_27 : decode cX4_measure 27 = .ok (.aload_n 0, 1) := by decide +kernel
theorem dX4_measure_28 : decode cX4_measure 28 = .ok (.iload_n 2, 1) := by decide +kernel
theorem dX4_measure_29 : decode cX4_measure 29 = .ok (.iconst 0, 1) := by decide +kernel
theorem dX4_measure_30 : decode cX4_measure 30 = .ok (.invokevirtual 25, 3) := by decide +kernel
theorem dX4_measure_33 : decode cX4_measure 33 = .ok (.iconst 0, 1) := by decide +kernel
theorem dX4_measure_34 : decode cX4_measure 34 = .ok (.istore_n 3, 1) := by decide +kernel
theorem dX4_measure_35 : decode cX4_measure 35 = .ok (.iload_n 3, 1) := by decide +kernel
theorem dX4_measure_36 : decode cX4_measure 36 = .ok (.aload_n 0, 1) := by decide +kernel
theorem dX4_measure_37 : decode cX4_measure 37 = .ok (.getfield 21, 3) := by decide +kernel
theorem dX4_measure_40 : decode cX4_measure 40 = .ok (.if_icmp .ge 70, 3) := by decide +kernel
theorem dX4_measure_43 : decode cX4_measure 43 = .ok (.iload_n 3, 1) := by decide +kernel
theorem dX4_measure_44 : decode cX4_measure 44 = .ok (.sipush 429, 3) := by decide +kernel
theorem dX4_measure_47 : decode cX4_measure 47 = .ok (.if_icmp .ge 63, 3) := by decide +kernel
theorem dX4_measure_50 : decode cX4_measure 50 = .ok (.aload_n 1, 1) := by decide +kernel
theorem dX4_measure_51 : decode cX4_measure 51 = .ok (.aload_n 0, 1) := by decide +kernel
theorem dX4_measure_52 : decode cX4_measure 52 = .ok (.getfield 15, 3) := by decide +kernel
theorem dX4_measure_55 : decode cX4_measure 55 = .ok (.iload_n 3, 1) := by decide +kernel
theorem dX4_measure_56 : decode cX4_measure 56 = .ok (.iaload, 1) := by decide +kernel
theorem dX4_measure_57 : decode cX4_measure 57 = .ok (.invokevirtual 29, 3) := by decide +kernel
theorem dX4_measure_60 : decode cX4_measure 60 = .ok (.istore 4, 2) := by decide +kernel
theorem dX4_measure_62 : decode cX4_measure 62 = .ok (.iconst 0, 1) := by decide +kernel
theorem dX4_measure_63 : decode cX4_measure 63 = .ok (.istore 5, 2) := by decide +kernel
theorem dX4_measure_65 : decode cX4_measure 65 = .ok (.iload 5, 2) := by decide +kernel
theorem dX4_measure_67 : decode cX4_measure 67 = .ok (.aload_n 1, 1) := by decide +kernel
theorem dX4_measure_68 : decode cX4_measure 68 = .ok (.invokevirtual 35, 3) := by decide +kernel
theorem dX4_measure_71 : decode cX4_measure 71 = .ok (.if_icmp .ge 33, 3) := by decide +kernel
theorem dX4_measure_74 : decode cX4_measure 74 = .ok (.aload_n 0, 1) := by decide +kernel
theorem dX4_measure_75 : decode cX4_measure 75 = .ok (.aload_n 1, 1) := by decide +kernel
theorem dX4_measure_76 : decode cX4_measure 76 = .ok (.iload 4, 2) := by decide +kernel
theorem dX4_measure_78 : decode cX4_measure 78 = .ok (.iload 5, 2) := by decide +kernel
theorem dX4_measure_80 : decode cX4_measure 80 = .ok (.invokevirtual 39, 3) := by decide +kernel
theorem dX4_measure_83 : decode cX4_measure 83 = .ok (.aload_n 0, 1) := by decide +kernel
theorem dX4_measure_84 : decode cX4_measure 84 = .ok (.aload_n 0, 1) := by decide +kernel
theorem dX4_measure_85 : decode cX4_measure 85 = .ok (.getfield 15, 3) := by decide +kernel
theorem dX4_measure_88 : decode cX4_measure 88 = .ok (.iload_n 3, 1) := by decide +kernel
theorem dX4_measure_89 : decode cX4_measure 89 = .ok (.iaload, 1) := by decide +kernel
theorem dX4_measure_90 : decode cX4_measure 90 = .ok (.invokevirtual 43, 3) := by decide +kernel
theorem dX4_measure_93 : decode cX4_measure 93 = .ok (.iconst 1, 1) := by decide +kernel
theorem dX4_measure_94 : decode cX4_measure 94 = .ok (.iadd, 1) := by decide +kernel
theorem dX4_measure_95 : decode cX4_measure 95 = .ok (.invokevirtual 25, 3) := by decide +kernel
theorem dX4_measure_98 : decode cX4_measure 98 = .ok (.iinc 5 1, 3) := by decide +kernel
theorem dX4_measure_101 : decode cX4_measure 101 = .ok (.goto (-36), 3) := by decide +kernel
theorem dX4_measure_104 : decode cX4_measure 104 = .ok (.iinc 3 1, 3) := by decide +kernel
theorem dX4_measure_107 : decode cX4_measure 107 = .ok (.goto (-72), 3) := by decide +kernel
theorem dX4_measure_110 : decode cX4_measure 110 = .ok (.return_, 1) := by decide +kernel
theorem dX4_comeTo_0 : decode cX4_comeTo 0 = .ok (.iload_n 1, 1) := by decide +kernel
theorem dX4_comeTo_1 : decode cX4_comeTo 1 = .ok (.ifCond .lt 57, 3) := by decide +kernel
theorem dX4_comeTo_4 : decode cX4_comeTo 4 = .ok (.iload_n 1, 1) := by decide +kernel
theorem dX4_comeTo_5 : decode cX4_comeTo 5 = .ok (.sipush 429, 3) := by decide +kernel
theorem dX4_comeTo_8 : decode cX4_comeTo 8 = .ok (.if_icmp .ge 50, 3) := by decide +kernel
theorem dX4_comeTo_11 : decode cX4_comeTo 11 = .ok (.aload_n 0, 1) := by decide +kernel
theorem dX4_comeTo_12 : decode cX4_comeTo 12 = .ok (.getfield 9, 3) := by decide +kernel
theorem dX4_comeTo_15 : decode cX4_comeTo 15 = .ok (.iload_n 1, 1) := by decide +kernel
theorem dX4_comeTo_16 : decode cX4_comeTo 16 = .ok (.iaload, 1) := by decide +kernel
theorem dX4_comeTo_17 : decode cX4_comeTo 17 = .ok (.iconst (-1), 1) := by decide +kernel
theorem dX4_comeTo_18 : decode cX4_comeTo 18 = .ok (.if_icmp .ne 40, 3) := by decide +kernel
theorem dX4_comeTo_21 : decode cX4_comeTo 21 = .ok (.aload_n 0, 1) := by decide +kernel
theorem dX4_comeTo_22 : decode cX4_comeTo 22 = .ok (.getfield 21, 3) := by decide +kernel
theorem dX4_comeTo_25 : decode cX4_comeTo 25 = .ok (.sipush 429, 3) := by decide +kernel
theorem dX4_comeTo_28 : decode cX4_comeTo 28 = .ok (.if_icmp .ge 30, 3) := by decide +kernel
theorem dX4_comeTo_31 : decode cX4_comeTo 31 = .ok (.aload_n 0, 1) := by decide +kernel
theorem dX4_comeTo_32 : decode cX4_comeTo 32 = .ok (.getfield 9, 3) := by decide +kernel
theorem dX4_comeTo_35 : decode cX4_comeTo 35 = .ok (.iload_n 1, 1) := by decide +kernel
theorem dX4_comeTo_36 : decode cX4_comeTo 36 = .ok (.iload_n 2, 1) := by decide +kernel
theorem dX4_comeTo_37 : decode cX4_comeTo 37 = .ok (.iastore, 1) := by decide +kernel
theorem dX4_comeTo_38 : decode cX4_comeTo 38 = .ok (.aload_n 0, 1) := by decide +kernel
theorem dX4_comeTo_39 : decode cX4_comeTo 39 = .ok (.getfield 15, 3) := by decide +kernel
theorem dX4_comeTo_42 : decode cX4_comeTo 42 = .ok (.aload_n 0, 1) := by decide +kernel
theorem dX4_comeTo_43 : decode cX4_comeTo 43 = .ok (.getfield 21, 3) := by decide +kernel
theorem dX4_comeTo_46 : decode cX4_comeTo 46 = .ok (.iload_n 1, 1) := by decide +kernel
theorem dX4_comeTo_47 : decode cX4_comeTo 47 = .ok (.iastore, 1) := by decide +kernel
theorem dX4_comeTo_48 : decode cX4_comeTo 48 = .ok (.aload_n 0, 1) := by decide +kernel
theorem dX4_comeTo_49 : decode cX4_comeTo 49 = .ok (.dup, 1) := by decide +kernel
theorem dX4_comeTo_50 : decode cX4_comeTo 50 = .ok (.getfield 21, 3) := by decide +kernel
theorem dX4_comeTo_53 : decode cX4_comeTo 53 = .ok (.iconst 1, 1) := by decide +kernel
theorem dX4_comeTo_54 : decode cX4_comeTo 54 = .ok (.iadd, 1) := by decide +kernel
theorem dX4_comeTo_55 : decode cX4_comeTo 55 = .ok (.putfield 21, 3) := by decide +kernel
theorem dX4_comeTo_58 : decode cX4_comeTo 58 = .ok (.return_, 1) := by decide +kernel
theorem dX4_stepsTo_0 : decode cX4_stepsTo 0 = .ok (.iload_n 1, 1) := by decide +kernel
theorem dX4_stepsTo_1 : decode cX4_stepsTo 1 = .ok (.ifCond .lt 19, 3) := by decide +kernel
theorem dX4_stepsTo_4 : decode cX4_stepsTo 4 = .ok (.iload_n 1, 1) := by decide +kernel
theorem dX4_stepsTo_5 : decode cX4_stepsTo 5 = .ok (.sipush 429, 3) := by decide +kernel
theorem dX4_stepsTo_8 : decode cX4_stepsTo 8 = .ok (.if_icmp .ge 12, 3) := by decide +kernel
theorem dX4_stepsTo_11 : decode cX4_stepsTo 11 = .ok (.aload_n 0, 1) := by decide +kernel
theorem dX4_stepsTo_12 : decode cX4_stepsTo 12 = .ok (.getfield 9, 3) := by decide +kernel
theorem dX4_stepsTo_15 : decode cX4_stepsTo 15 = .ok (.iload_n 1, 1) := by decide +kernel
theorem dX4_stepsTo_16 : decode cX4_stepsTo 16 = .ok (.iaload, 1) := by decide +kernel
theorem dX4_stepsTo_17 : decode cX4_stepsTo 17 = .ok (.goto 4, 3) := by decide +kernel
theorem dX4_stepsTo_20 : decode cX4_stepsTo 20 = .ok (.iconst (-1), 1) := by decide +kernel
theorem dX4_stepsTo_21 : decode cX4_stepsTo 21 = .ok (.ireturn, 1) := by decide +kernel
theorem dX4_mostSteps_0 : decode cX4_mostSteps 0 = .ok (.iconst 0, 1) := by decide +kernel
theorem dX4_mostSteps_1 : decode cX4_mostSteps 1 = .ok (.istore_n 2, 1) := by decide +kernel
theorem dX4_mostSteps_2 : decode cX4_mostSteps 2 = .ok (.iconst 0, 1) := by decide +kernel
theorem dX4_mostSteps_3 : decode cX4_mostSteps 3 = .ok (.istore_n 3, 1) := by decide +kernel
theorem dX4_mostSteps_4 : decode cX4_mostSteps 4 = .ok (.iload_n 3, 1) := by decide +kernel
theorem dX4_mostSteps_5 : decode cX4_mostSteps 5 = .ok (.aload_n 1, 1) := by decide +kernel
theorem dX4_mostSteps_6 : decode cX4_mostSteps 6 = .ok (.invokevirtual 46, 3) := by decide +kernel
theorem dX4_mostSteps_9 : decode cX4_mostSteps 9 = .ok (.if_icmp .ge 19, 3) := by decide +kernel
theorem dX4_mostSteps_12 : decode cX4_mostSteps 12 = .ok (.iload_n 2, 1) := by decide +kernel
theorem dX4_mostSteps_13 : decode cX4_mostSteps 13 = .ok (.aload_n 0, 1) := by decide +kernel
theorem dX4_mostSteps_14 : decode cX4_mostSteps 14 = .ok (.iload_n 3, 1) := by decide +kernel
theorem dX4_mostSteps_15 : decode cX4_mostSteps 15 = .ok (.invokevirtual 43, 3) := by decide +kernel
theorem dX4_mostSteps_18 : decode cX4_mostSteps 18 = .ok (.invokestatic 49, 3) := by decide +kernel
theorem dX4_mostSteps_21 : decode cX4_mostSteps 21 = .ok (.istore_n 2, 1) := by decide +kernel
theorem dX4_mostSteps_22 : decode cX4_mostSteps 22 = .ok (.iinc 3 1, 3) := by decide +kernel
theorem dX4_mostSteps_25 : decode cX4_mostSteps 25 = .ok (.goto (-21), 3) := by decide +kernel
theorem dX4_mostSteps_28 : decode cX4_mostSteps 28 = .ok (.iload_n 2, 1) := by decide +kernel
theorem dX4_mostSteps_29 : decode cX4_mostSteps 29 = .ok (.ireturn, 1) := by decide +kernel
theorem dX4_howManyAt_0 : decode cX4_howManyAt 0 = .ok (.iconst 0, 1) := by decide +kernel
theorem dX4_howManyAt_1 : decode cX4_howManyAt 1 = .ok (.istore_n 3, 1) := by decide +kernel
theorem dX4_howManyAt_2 : decode cX4_howManyAt 2 = .ok (.iconst 0, 1) := by decide +kernel
theorem dX4_howManyAt_3 : decode cX4_howManyAt 3 = .ok (.istore 4, 2) := by decide +kernel
theorem dX4_howManyAt_5 : decode cX4_howManyAt 5 = .ok (.iload 4, 2) := by decide +kernel
theorem dX4_howManyAt_7 : decode cX4_howManyAt 7 = .ok (.aload_n 1, 1) := by decide +kernel
theorem dX4_howManyAt_8 : decode cX4_howManyAt 8 = .ok (.invokevirtual 46, 3) := by decide +kernel
theorem dX4_howManyAt_11 : decode cX4_howManyAt 11 = .ok (.if_icmp .ge 22, 3) := by decide +kernel
theorem dX4_howManyAt_14 : decode cX4_howManyAt 14 = .ok (.aload_n 0, 1) := by decide +kernel
theorem dX4_howManyAt_15 : decode cX4_howManyAt 15 = .ok (.iload 4, 2) := by decide +kernel
theorem dX4_howManyAt_17 : decode cX4_howManyAt 17 = .ok (.invokevirtual 43, 3) := by decide +kernel
theorem dX4_howManyAt_20 : decode cX4_howManyAt 20 = .ok (.iload_n 2, 1) := by decide +kernel
theorem dX4_howManyAt_21 : decode cX4_howManyAt 21 = .ok (.if_icmp .ne 6, 3) := by decide +kernel
theorem dX4_howManyAt_24 : decode cX4_howManyAt 24 = .ok (.iinc 3 1, 3) := by decide +kernel
theorem dX4_howManyAt_27 : decode cX4_howManyAt 27 = .ok (.iinc 4 1, 3) := by decide +kernel
theorem dX4_howManyAt_30 : decode cX4_howManyAt 30 = .ok (.goto (-25), 3) := by decide +kernel
theorem dX4_howManyAt_33 : decode cX4_howManyAt 33 = .ok (.iload_n 3, 1) := by decide +kernel
theorem dX4_howManyAt_34 : decode cX4_howManyAt 34 = .ok (.ireturn, 1) := by decide +kernel
theorem dX4_layWay_0 : decode cX4_layWay 0 = .ok (.aload_n 0, 1) := by decide +kernel
theorem dX4_layWay_1 : decode cX4_layWay 1 = .ok (.aload_n 1, 1) := by decide +kernel
theorem dX4_layWay_2 : decode cX4_layWay 2 = .ok (.iload_n 3, 1) := by decide +kernel
theorem dX4_layWay_3 : decode cX4_layWay 3 = .ok (.invokevirtual 54, 3) := by decide +kernel
theorem dX4_layWay_6 : decode cX4_layWay 6 = .ok (.aload_n 0, 1) := by decide +kernel
theorem dX4_layWay_7 : decode cX4_layWay 7 = .ok (.iload_n 2, 1) := by decide +kernel
theorem dX4_layWay_8 : decode cX4_layWay 8 = .ok (.invokevirtual 43, 3) := by decide +kernel
theorem dX4_layWay_11 : decode cX4_layWay 11 = .ok (.istore 4, 2) := by decide +kernel
theorem dX4_layWay_13 : decode cX4_layWay 13 = .ok (.iload_n 2, 1) := by decide +kernel
theorem dX4_layWay_14 : decode cX4_layWay 14 = .ok (.istore 5, 2) := by decide +kernel
theorem dX4_layWay_16 : decode cX4_layWay 16 = .ok (.aload_n 0, 1) := by decide +kernel
theorem dX4_layWay_17 : decode cX4_layWay 17 = .ok (.iconst 0, 1) := by decide +kernel
theorem dX4_layWay_18 : decode cX4_layWay 18 = .ok (.putfield 58, 3) := by decide +kernel
theorem dX4_layWay_21 : decode cX4_layWay 21 = .ok (.iconst 0, 1) := by decide +kernel
theorem dX4_layWay_22 : decode cX4_layWay 22 = .ok (.istore 6, 2) := by decide +kernel
theorem dX4_layWay_24 : decode cX4_layWay 24 = .ok (.iload 6, 2) := by decide +kernel
theorem dX4_layWay_26 : decode cX4_layWay 26 = .ok (.iload 4, 2) := by decide +kernel
theorem dX4_layWay_28 : decode cX4_layWay 28 = .ok (.if_icmp .gt 45, 3) := by decide +kernel
theorem dX4_layWay_31 : decode cX4_layWay 31 = .ok (.iload 6, 2) := by decide +kernel
theorem dX4_layWay_33 : decode cX4_layWay 33 = .ok (.sipush 429, 3) := by decide +kernel
theorem dX4_layWay_36 : decode cX4_layWay 36 = .ok (.if_icmp .ge 37, 3) := by decide +kernel
theorem dX4_layWay_39 : decode cX4_layWay 39 = .ok (.aload_n 0, 1) := by decide +kernel
theorem dX4_layWay_40 : decode cX4_layWay 40 = .ok (.getfield 18, 3) := by decide +kernel
theorem dX4_layWay_43 : decode cX4_layWay 43 = .ok (.iload 6, 2) := by decide +kernel
theorem dX4_layWay_45 : decode cX4_layWay 45 = .ok (.iload 5, 2) := by decide +kernel
theorem dX4_layWay_47 : decode cX4_layWay 47 = .ok (.iastore, 1) := by decide +kernel
theorem dX4_layWay_48 : decode cX4_layWay 48 = .ok (.aload_n 0, 1) := by decide +kernel
theorem dX4_layWay_49 : decode cX4_layWay 49 = .ok (.dup, 1) := by decide +kernel
theorem dX4_layWay_50 : decode cX4_layWay 50 = .ok (.getfield 58, 3) := by decide +kernel
theorem dX4_layWay_53 : decode cX4_layWay 53 = .ok (.iconst 1, 1) := by decide +kernel
theorem dX4_layWay_54 : decode cX4_layWay 54 = .ok (.iadd, 1) := by decide +kernel
theorem dX4_layWay_55 : decode cX4_layWay 55 = .ok (.putfield 58, 3) := by decide +kernel
theorem dX4_layWay_58 : decode cX4_layWay 58 = .ok (.aload_n 0, 1) := by decide +kernel
theorem dX4_layWay_59 : decode cX4_layWay 59 = .ok (.aload_n 1, 1) := by decide +kernel
theorem dX4_layWay_60 : decode cX4_layWay 60 = .ok (.iload 5, 2) := by decide +kernel
theorem dX4_layWay_62 : decode cX4_layWay 62 = .ok (.invokevirtual 61, 3) := by decide +kernel
theorem dX4_layWay_65 : decode cX4_layWay 65 = .ok (.istore 5, 2) := by decide +kernel
theorem dX4_layWay_67 : decode cX4_layWay 67 = .ok (.iinc 6 1, 3) := by decide +kernel
theorem dX4_layWay_70 : decode cX4_layWay 70 = .ok (.goto (-46), 3) := by decide +kernel
theorem dX4_layWay_73 : decode cX4_layWay 73 = .ok (.iload 4, 2) := by decide +kernel
theorem dX4_layWay_75 : decode cX4_layWay 75 = .ok (.ireturn, 1) := by decide +kernel
theorem dX4_leastNearer_0 : decode cX4_leastNearer 0 = .ok (.aload_n 1, 1) := by decide +kernel
theorem dX4_leastNearer_1 : decode cX4_leastNearer 1 = .ok (.iload_n 2, 1) := by decide +kernel
theorem dX4_leastNearer_2 : decode cX4_leastNearer 2 = .ok (.invokevirtual 29, 3) := by decide +kernel
theorem dX4_leastNearer_5 : decode cX4_leastNearer 5 = .ok (.istore_n 3, 1) := by decide +kernel
theorem dX4_leastNearer_6 : decode cX4_leastNearer 6 = .ok (.iconst (-1), 1) := by decide +kernel
theorem dX4_leastNearer_7 : decode cX4_leastNearer 7 = .ok (.istore 4, 2) := by decide +kernel
theorem dX4_leastNearer_9 : decode cX4_leastNearer 9 = .ok (.iconst 0, 1) := by decide +kernel
theorem dX4_leastNearer_10 : decode cX4_leastNearer 10 = .ok (.istore 5, 2) := by decide +kernel
theorem dX4_leastNearer_12 : decode cX4_leastNearer 12 = .ok (.iload 5, 2) := by decide +kernel
theorem dX4_leastNearer_14 : decode cX4_leastNearer 14 = .ok (.aload_n 1, 1) := by decide +kernel
theorem dX4_leastNearer_15 : decode cX4_leastNearer 15 = .ok (.invokevirtual 35, 3) := by decide +kernel
theorem dX4_leastNearer_18 : decode cX4_leastNearer 18 = .ok (.if_icmp .ge 69, 3) := by decide +kernel
theorem dX4_leastNearer_21 : decode cX4_leastNearer 21 = .ok (.aload_n 1, 1) := by decide +kernel
theorem dX4_leastNearer_22 : decode cX4_leastNearer 22 = .ok (.iload_n 3, 1) := by decide +kernel
theorem dX4_leastNearer_23 : decode cX4_leastNearer 23 = .ok (.iload 5, 2) := by decide +kernel
theorem dX4_leastNearer_25 : decode cX4_leastNearer 25 = .ok (.invokevirtual 39, 3) := by decide +kernel
theorem dX4_leastNearer_28 : decode cX4_leastNearer 28 = .ok (.istore 6, 2) := by decide +kernel
theorem dX4_leastNearer_30 : decode cX4_leastNearer 30 = .ok (.iload 6, 2) := by decide +kernel
theorem dX4_leastNearer_32 : decode cX4_leastNearer 32 = .ok (.iconst (-1), 1) := by decide +kernel
theorem dX4_leastNearer_33 : decode cX4_leastNearer 33 = .ok (.if_icmp .eq 23, 3) := by decide +kernel
theorem dX4_leastNearer_36 : decode cX4_leastNearer 36 = .ok (.aload_n 0, 1) := by decide +kernel
theorem dX4_leastNearer_37 : decode cX4_leastNearer 37 = .ok (.iload 6, 2) := by decide +kernel
theorem dX4_leastNearer_39 : decode cX4_leastNearer 39 = .ok (.invokevirtual 43, 3) := by decide +kernel
theorem dX4_leastNearer_42 : decode cX4_leastNearer 42 = .ok (.aload_n 0, 1) := by decide +kernel
theorem dX4_leastNearer_43 : decode cX4_leastNearer 43 = .ok (.iload_n 2, 1) := by decide +kernel
theorem dX4_leastNearer_44 : decode cX4_leastNearer 44 = .ok (.invokevirtual 43, 3) := by decide +kernel
theorem dX4_leastNearer_47 : decode cX4_leastNearer 47 = .ok (.iconst 1, 1) := by decide +kernel
theorem dX4_leastNearer_48 : decode cX4_leastNearer 48 = .ok (.isub, 1) := by decide +kernel
theorem dX4_leastNearer_49 : decode cX4_leastNearer 49 = .ok (.if_icmp .ne 7, 3) := by decide +kernel
theorem dX4_leastNearer_52 : decode cX4_leastNearer 52 = .ok (.iconst 1, 1) := by decide +kernel
theorem dX4_leastNearer_53 : decode cX4_leastNearer 53 = .ok (.goto 4, 3) := by decide +kernel
theorem dX4_leastNearer_56 : decode cX4_leastNearer 56 = .ok (.iconst 0, 1) := by decide +kernel
theorem dX4_leastNearer_57 : decode cX4_leastNearer 57 = .ok (.istore 7, 2) := by decide +kernel
theorem dX4_leastNearer_59 : decode cX4_leastNearer 59 = .ok (.iload 7, 2) := by decide +kernel
theorem dX4_leastNearer_61 : decode cX4_leastNearer 61 = .ok (.ifCond .eq 20, 3) := by decide +kernel
theorem dX4_leastNearer_64 : decode cX4_leastNearer 64 = .ok (.iload 4, 2) := by decide +kernel
theorem dX4_leastNearer_66 : decode cX4_leastNearer 66 = .ok (.iconst (-1), 1) := by decide +kernel
theorem dX4_leastNearer_67 : decode cX4_leastNearer 67 = .ok (.if_icmp .eq 10, 3) := by decide +kernel
theorem dX4_leastNearer_70 : decode cX4_leastNearer 70 = .ok (.iload 6, 2) := by decide +kernel
theorem dX4_leastNearer_72 : decode cX4_leastNearer 72 = .ok (.iload 4, 2) := by decide +kernel
theorem dX4_leastNearer_74 : decode cX4_leastNearer 74 = .ok (.if_icmp .ge 7, 3) := by decide +kernel
theorem dX4_leastNearer_77 : decode cX4_leastNearer 77 = .ok (.iload 6, 2) := by decide +kernel
theorem dX4_leastNearer_79 : decode cX4_leastNearer 79 = .ok (.istore 4, 2) := by decide +kernel
theorem dX4_leastNearer_81 : decode cX4_leastNearer 81 = .ok (.iinc 5 1, 3) := by decide +kernel
theorem dX4_leastNearer_84 : decode cX4_leastNearer 84 = .ok (.goto (-72), 3) := by decide +kernel
theorem dX4_leastNearer_87 : decode cX4_leastNearer 87 = .ok (.iload 4, 2) := by decide +kernel
theorem dX4_leastNearer_89 : decode cX4_leastNearer 89 = .ok (.ireturn, 1) := by decide +kernel
theorem dX4_onWay_0 : decode cX4_onWay 0 = .ok (.iload_n 1, 1) := by decide +kernel
theorem dX4_onWay_1 : decode cX4_onWay 1 = .ok (.ifCond .lt 20, 3) := by decide +kernel
theorem dX4_onWay_4 : decode cX4_onWay 4 = .ok (.iload_n 1, 1) := by decide +kernel
theorem dX4_onWay_5 : decode cX4_onWay 5 = .ok (.aload_n 0, 1) := by decide +kernel
theorem dX4_onWay_6 : decode cX4_onWay 6 = .ok (.getfield 58, 3) := by decide +kernel
theorem dX4_onWay_9 : decode cX4_onWay 9 = .ok (.if_icmp .ge 12, 3) := by decide +kernel
theorem dX4_onWay_12 : decode cX4_onWay 12 = .ok (.aload_n 0, 1) := by decide +kernel
theorem dX4_onWay_13 : decode cX4_onWay 13 = .ok (.getfield 18, 3) := by decide +kernel
theorem dX4_onWay_16 : decode cX4_onWay 16 = .ok (.iload_n 1, 1) := by decide +kernel
theorem dX4_onWay_17 : decode cX4_onWay 17 = .ok (.iaload, 1) := by decide +kernel
theorem dX4_onWay_18 : decode cX4_onWay 18 = .ok (.goto 4, 3) := by decide +kernel
theorem dX4_onWay_21 : decode cX4_onWay 21 = .ok (.iconst (-1), 1) := by decide +kernel
theorem dX4_onWay_22 : decode cX4_onWay 22 = .ok (.ireturn, 1) := by decide +kernel
