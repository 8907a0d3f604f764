theorem dX11_spread_0 : decode cX11_spread 0 = .ok (.aload_n 0, 1) := by decide +kernel
theorem dX11_spread_1 : decode cX11_spread 1 = .ok (.iload_n 1, 1) := by decide +kernel
theorem dX11_spread_2 : decode cX11_spread 2 = .ok (.invokevirtual 244, 3) := by decide +kernel
theorem dX11_spread_5 : decode cX11_spread 5 = .ok (.ifCond .eq 11, 3) := by decide +kernel
theorem dX11_spread_8 : decode cX11_spread 8 = .ok (.aload_n 0, 1) := by decide +kernel
theorem dX11_spread_9 : decode cX11_spread 9 = .ok (.iload_n 2, 1) := by decide +kernel
theorem dX11_spread_10 : decode cX11_spread 10 = .ok (.invokevirtual 244, 3) := by decide +kernel
theorem dX11_spread_13 : decode cX11_spread 13 = .ok (.ifCond .ne 6, 3) := by decide +kernel
theorem dX11_spread_16 : decode cX11_spread 16 = .ok (.bipush (-2), 2) := by decide +kernel
theorem dX11_spread_18 : decode cX11_spread 18 = .ok (.ireturn, 1) := by decide +kernel
theorem dX11_spread_19 : decode cX11_spread 19 = .ok (.aload_n 0, 1) := by decide +kernel
theorem dX11_spread_20 : decode cX11_spread 20 = .ok (.aload_n 0, 1) := by decide +kernel
theorem dX11_spread_21 : decode cX11_spread 21 = .ok (.getfield 98, 3) := by decide +kernel
theorem dX11_spread_24 : decode cX11_spread 24 = .ok (.invokevirtual 101, 3) := by decide +kernel
theorem dX11_spread_27 : decode cX11_spread 27 = .ok (.iconst 0, 1) := by decide +kernel
theorem dX11_spread_28 : decode cX11_spread 28 = .ok (.istore 4, 2) := by decide +kernel
theorem dX11_spread_30 : decode cX11_spread 30 = .ok (.iconst 0, 1) := by decide +kernel
theorem dX11_spread_31 : decode cX11_spread 31 = .ok (.istore 5, 2) := by decide +kernel
theorem dX11_spread_33 : decode cX11_spread 33 = .ok (.iload 5, 2) := by decide +kernel
theorem dX11_spread_35 : decode cX11_spread 35 = .ok (.aload_n 0, 1) := by decide +kernel
theorem dX11_spread_36 : decode cX11_spread 36 = .ok (.getfield 177, 3) := by decide +kernel
theorem dX11_spread_39 : decode cX11_spread 39 = .ok (.if_icmp .ge 40, 3) := by decide +kernel
theorem dX11_spread_42 : decode cX11_spread 42 = .ok (.iload 4, 2) := by decide +kernel
theorem dX11_spread_44 : decode cX11_spread 44 = .ok (.aload_n 0, 1) := by decide +kernel
theorem dX11_spread_45 : decode cX11_spread 45 = .ok (.aload_n 0, 1) := by decide +kernel
theorem dX11_spread_46 : decode cX11_spread 46 = .ok (.getfield 98, 3) := by decide +kernel
theorem dX11_spread_49 : decode cX11_spread 49 = .ok (.aload_n 0, 1) := by decide +kernel
theorem dX11_spread_50 : decode cX11_spread 50 = .ok (.getfield 27, 3) := by decide +kernel
theorem dX11_spread_53 : decode cX11_spread 53 = .ok (.iload 5, 2) := by decide +kernel
theorem dX11_spread_55 : decode cX11_spread 55 = .ok (.laload, 1) := by decide +kernel
theorem dX11_spread_56 : decode cX11_spread 56 = .ok (.iload_n 1, 1) := by decide +kernel
theorem dX11_spread_57 : decode cX11_spread 57 = .ok (.iload_n 2, 1) := by decide +kernel
theorem dX11_spread_58 : decode cX11_spread 58 = .ok (.invokevirtual 247, 3) := by decide +kernel
theorem dX11_spread_61 : decode cX11_spread 61 = .ok (.iload_n 3, 1) := by decide +kernel
theorem dX11_spread_62 : decode cX11_spread 62 = .ok (.if_icmp .ne 7, 3) := by decide +kernel
theorem dX11_spread_65 : decode cX11_spread 65 = .ok (.iconst 1, 1) := by decide +kernel
theorem dX11_spread_66 : decode cX11_spread 66 = .ok (.goto 4, 3) := by decide +kernel
theorem dX11_spread_69 : decode cX11_spread 69 = .ok (.iconst 0, 1) := by decide +kernel
theorem dX11_spread_70 : decode cX11_spread 70 = .ok (.iadd, 1) := by decide +kernel
theorem dX11_spread_71 : decode cX11_spread 71 = .ok (.istore 4, 2) := by decide +kernel
theorem dX11_spread_73 : decode cX11_spread 73 = .ok (.iinc 5 1, 3) := by decide +kernel
theorem dX11_spread_76 : decode cX11_spread 76 = .ok (.goto (-43), 3) := by decide +kernel
theorem dX11_spread_79 : decode cX11_spread 79 = .ok (.iload 4, 2) := by decide +kernel
theorem dX11_spread_81 : decode cX11_spread 81 = .ok (.ireturn, 1) := by decide +kernel
theorem dX11_period_0 : decode cX11_period 0 = .ok (.aload_n 0, 1) := by decide +kernel
theorem dX11_period_1 : decode cX11_period 1 = .ok (.invokevirtual 297, 3) := by decide +kernel
theorem dX11_period_4 : decode cX11_period 4 = .ok (.istore_n 1, 1) := by decide +kernel
theorem dX11_period_5 : decode cX11_period 5 = .ok (.iload_n 1, 1) := by decide +kernel
theorem dX11_period_6 : decode cX11_period 6 = .ok (.iconst 1, 1) := by decide +kernel
theorem dX11_period_7 : decode cX11_period 7 = .ok (.bipush 10, 2) := by decide +kernel
theorem dX11_period_9 : decode cX11_period 9 = .ok (.invokestatic 207, 3) := by decide +kernel
theorem dX11_period_12 : decode cX11_period 12 = .ok (.ifCond .ne 6, 3) := by decide +kernel
theorem dX11_period_15 : decode cX11_period 15 = .ok (.bipush (-2), 2) := by decide +kernel
theorem dX11_period_17 : decode cX11_period 17 = .ok (.ireturn, 1) := by decide +kernel
theorem dX11_period_18 : decode cX11_period 18 = .ok (.iconst 0, 1) := by decide +kernel
theorem dX11_period_19 : decode cX11_period 19 = .ok (.istore_n 2, 1) := by decide +kernel
theorem dX11_period_20 : decode cX11_period 20 = .ok (.iload_n 2, 1) := by decide +kernel
theorem dX11_period_21 : decode cX11_period 21 = .ok (.iload_n 1, 1) := by decide +kernel
theorem dX11_period_22 : decode cX11_period 22 = .ok (.if_icmp .ge 27, 3) := by decide +kernel
theorem dX11_period_25 : decode cX11_period 25 = .ok (.aload_n 0, 1) := by decide +kernel
theorem dX11_period_26 : decode cX11_period 26 = .ok (.getfield 55, 3) := by decide +kernel
theorem dX11_period_29 : decode cX11_period 29 = .ok (.iload_n 2, 1) := by decide +kernel
theorem dX11_period_30 : decode cX11_period 30 = .ok (.iaload, 1) := by decide +kernel
theorem dX11_period_31 : decode cX11_period 31 = .ok (.iconst 1, 1) := by decide +kernel
theorem dX11_period_32 : decode cX11_period 32 = .ok (.bipush 20, 2) := by decide +kernel
theorem dX11_period_34 : decode cX11_period 34 = .ok (.invokestatic 207, 3) := by decide +kernel
theorem dX11_period_37 : decode cX11_period 37 = .ok (.ifCond .ne 6, 3) := by decide +kernel
theorem dX11_period_40 : decode cX11_period 40 = .ok (.bipush (-2), 2) := by decide +kernel
theorem dX11_period_42 : decode cX11_period 42 = .ok (.ireturn, 1) := by decide +kernel
theorem dX11_period_43 : decode cX11_period 43 = .ok (.iinc 2 1, 3) := by decide +kernel
theorem dX11_period_46 : decode cX11_period 46 = .ok (.goto (-26), 3) := by decide +kernel
theorem dX11_period_49 : decode cX11_period 49 = .ok (.aload_n 0, 1) := by decide +kernel
theorem dX11_period_50 : decode cX11_period 50 = .ok (.iload_n 1, 1) := by decide +kernel
theorem dX11_period_51 : decode cX11_period 51 = .ok (.putfield 109, 3) := by decide +kernel
theorem dX11_period_54 : decode cX11_period 54 = .ok (.iconst 0, 1) := by decide +kernel
theorem dX11_period_55 : decode cX11_period 55 = .ok (.istore_n 2, 1) := by decide +kernel
theorem dX11_period_56 : decode cX11_period 56 = .ok (.iload_n 2, 1) := by decide +kernel
theorem dX11_period_57 : decode cX11_period 57 = .ok (.iload_n 1, 1) := by decide +kernel
theorem dX11_period_58 : decode cX11_period 58 = .ok (.if_icmp .ge 21, 3) := by decide +kernel
theorem dX11_period_61 : decode cX11_period 61 = .ok (.aload_n 0, 1) := by decide +kernel
theorem dX11_period_62 : decode cX11_period 62 = .ok (.getfield 67, 3) := by decide +kernel
theorem dX11_period_65 : decode cX11_period 65 = .ok (.iload_n 2, 1) := by decide +kernel
theorem dX11_period_66 : decode cX11_period 66 = .ok (.aload_n 0, 1) := by decide +kernel
theorem dX11_period_67 : decode cX11_period 67 = .ok (.getfield 55, 3) := by decide +kernel
theorem dX11_period_70 : decode cX11_period 70 = .ok (.iload_n 2, 1) := by decide +kernel
theorem dX11_period_71 : decode cX11_period 71 = .ok (.iaload, 1) := by decide +kernel
theorem dX11_period_72 : decode cX11_period 72 = .ok (.iastore, 1) := by decide +kernel
theorem dX11_period_73 : decode cX11_period 73 = .ok (.iinc 2 1, 3) := by decide +kernel
theorem dX11_period_76 : decode cX11_period 76 = .ok (.goto (-20), 3) := by decide +kernel
theorem dX11_period_79 : decode cX11_period 79 = .ok (.iload_n 1, 1) := by decide +kernel
theorem dX11_period_80 : decode cX11_period 80 = .ok (.ireturn, 1) := by decide +kernel
theorem dX11_ofCut_0 : decode cX11_ofCut 0 = .ok (.aload_n 0, 1) := by decide +kernel
theorem dX11_ofCut_1 : decode cX11_ofCut 1 = .ok (.aload_n 0, 1) := by decide +kernel
theorem dX11_ofCut_2 : decode cX11_ofCut 2 = .ok (.getfield 98, 3) := by decide +kernel
theorem dX11_ofCut_5 : decode cX11_ofCut 5 = .ok (.invokevirtual 171, 3) := by decide +kernel
theorem dX11_ofCut_8 : decode cX11_ofCut 8 = .ok (.aload_n 0, 1) := by decide +kernel
theorem dX11_ofCut_9 : decode cX11_ofCut 9 = .ok (.aload_n 0, 1) := by decide +kernel
theorem dX11_ofCut_10 : decode cX11_ofCut 10 = .ok (.getfield 98, 3) := by decide +kernel
theorem dX11_ofCut_13 : decode cX11_ofCut 13 = .ok (.putfield 109, 3) := by decide +kernel
theorem dX11_ofCut_16 : decode cX11_ofCut 16 = .ok (.iconst 0, 1) := by decide +kernel
theorem dX11_ofCut_17 : decode cX11_ofCut 17 = .ok (.istore_n 1, 1) := by decide +kernel
theorem dX11_ofCut_18 : decode cX11_ofCut 18 = .ok (.iload_n 1, 1) := by decide +kernel
theorem dX11_ofCut_19 : decode cX11_ofCut 19 = .ok (.aload_n 0, 1) := by decide +kernel
theorem dX11_ofCut_20 : decode cX11_ofCut 20 = .ok (.getfield 98, 3) := by decide +kernel
theorem dX11_ofCut_23 : decode cX11_ofCut 23 = .ok (.if_icmp .ge 28, 3) := by decide +kernel
theorem dX11_ofCut_26 : decode cX11_ofCut 26 = .ok (.aload_n 0, 1) := by decide +kernel
theorem dX11_ofCut_27 : decode cX11_ofCut 27 = .ok (.getfield 67, 3) := by decide +kernel
theorem dX11_ofCut_30 : decode cX11_ofCut 30 = .ok (.iload_n 1, 1) := by decide +kernel
theorem dX11_ofCut_31 : decode cX11_ofCut 31 = .ok (.aload_n 0, 1) := by decide +kernel
theorem dX11_ofCut_32 : decode cX11_ofCut 32 = .ok (.aload_n 0, 1) := by decide +kernel
theorem dX11_ofCut_33 : decode cX11_ofCut 33 = .ok (.getfield 98, 3) := by decide +kernel
theorem dX11_ofCut_36 : decode cX11_ofCut 36 = .ok (.aload_n 0, 1) := by decide +kernel
theorem dX11_ofCut_37 : decode cX11_ofCut 37 = .ok (.getfield 105, 3) := by decide +kernel
theorem dX11_ofCut_40 : decode cX11_ofCut 40 = .ok (.iload_n 1, 1) := by decide +kernel
theorem dX11_ofCut_41 : decode cX11_ofCut 41 = .ok (.invokevirtual 251, 3) := by decide +kernel
theorem dX11_ofCut_44 : decode cX11_ofCut 44 = .ok (.iastore, 1) := by decide +kernel
theorem dX11_ofCut_45 : decode cX11_ofCut 45 = .ok (.iinc 1 1, 3) := by decide +kernel
theorem dX11_ofCut_48 : decode cX11_ofCut 48 = .ok (.goto (-30), 3) := by decide +kernel
theorem dX11_ofCut_51 : decode cX11_ofCut 51 = .ok (.aload_n 0, 1) := by decide +kernel
theorem dX11_ofCut_52 : decode cX11_ofCut 52 = .ok (.getfield 98, 3) := by decide +kernel
theorem dX11_ofCut_55 : decode cX11_ofCut 55 = .ok (.ireturn, 1) := by decide +kernel
theorem dX11_of_0 : decode cX11_of 0 = .ok (.iload_n 1, 1) := by decide +kernel
theorem dX11_of_1 : decode cX11_of 1 = .ok (.iconst 0, 1) := by decide +kernel
theorem dX11_of_2 : decode cX11_of 2 = .ok (.aload_n 0, 1) := by decide +kernel
theorem dX11_of_3 : decode cX11_of 3 = .ok (.getfield 109, 3) := by decide +kernel
theorem dX11_of_6 : decode cX11_of 6 = .ok (.iconst 1, 1) := by decide +kernel
theorem dX11_of_7 : decode cX11_of 7 = .ok (.isub, 1) := by decide +kernel
theorem dX11_of_8 : decode cX11_of 8 = .ok (.invokestatic 207, 3) := by decide +kernel
theorem dX11_of_11 : decode cX11_of 11 = .ok (.ifCond .eq 12, 3) := by decide +kernel
theorem dX11_of_14 : decode cX11_of 14 = .ok (.aload_n 0, 1) := by decide +kernel
theorem dX11_of_15 : decode cX11_of 15 = .ok (.getfield 67, 3) := by decide +kernel
theorem dX11_of_18 : decode cX11_of 18 = .ok (.iload_n 1, 1) := by decide +kernel
theorem dX11_of_19 : decode cX11_of 19 = .ok (.iaload, 1) := by decide +kernel
theorem dX11_of_20 : decode cX11_of 20 = .ok (.goto 5, 3) := by decide +kernel
theorem dX11_of_23 : decode cX11_of 23 = .ok (.bipush (-2), 2) := by decide +kernel
theorem dX11_of_25 : decode cX11_of 25 = .ok (.ireturn, 1) := by decide +kernel
theorem dX11_alongOf_0 : decode cX11_alongOf 0 = .ok (.lconst 0, 1) := by decide +kernel
theorem dX11_alongOf_1 : decode cX11_alongOf 1 = .ok (.lstore_n 3, 1) := by decide +kernel
theorem dX11_alongOf_2 : decode cX11_alongOf 2 = .ok (.lconst 1, 1) := by decide +kernel
theorem dX11_alongOf_3 : decode cX11_alongOf 3 = .ok (.lstore 5, 2) := by decide +kernel
theorem dX11_alongOf_5 : decode cX11_alongOf 5 = .ok (.iload_n 2, 1) := by decide +kernel
theorem dX11_alongOf_6 : decode cX11_alongOf 6 = .ok (.ifCond .ne 5, 3) := by decide +kernel
theorem dX11_alongOf_9 : decode cX11_alongOf 9 = .ok (.lconst 0, 1) := by decide +kernel
theorem dX11_alongOf_10 : decode cX11_alongOf 10 = .ok (.lreturn, 1) := by decide +kernel
theorem dX11_alongOf_11 : decode cX11_alongOf 11 = .ok (.iconst 1, 1) := by decide +kernel
theorem dX11_alongOf_12 : decode cX11_alongOf 12 = .ok (.istore 7, 2) := by decide +kernel
theorem dX11_alongOf_14 : decode cX11_alongOf 14 = .ok (.iload 7, 2) := by decide +kernel
theorem dX11_alongOf_16 : decode cX11_alongOf 16 = .ok (.iload_n 2, 1) := by decide +kernel
theorem dX11_alongOf_17 : decode cX11_alongOf 17 = .ok (.if_icmp .ge 38, 3) := by decide +kernel
theorem dX11_alongOf_20 : decode cX11_alongOf 20 = .ok (.aload_n 0, 1) := by decide +kernel
theorem dX11_alongOf_21 : decode cX11_alongOf 21 = .ok (.getfield 67, 3) := by decide +kernel
theorem dX11_alongOf_24 : decode cX11_alongOf 24 = .ok (.iload_n 1, 1) := by decide +kernel
theorem dX11_alongOf_25 : decode cX11_alongOf 25 = .ok (.iload 7, 2) := by decide +kernel
theorem dX11_alongOf_27 : decode cX11_alongOf 27 = .ok (.iadd, 1) := by decide +kernel
theorem dX11_alongOf_28 : decode cX11_alongOf 28 = .ok (.aload_n 0, 1) := by decide +kernel
theorem dX11_alongOf_29 : decode cX11_alongOf 29 = .ok (.getfield 109, 3) := by decide +kernel
theorem dX11_alongOf_32 : decode cX11_alongOf 32 = .ok (.irem, 1) := by decide +kernel
theorem dX11_alongOf_33 : decode cX11_alongOf 33 = .ok (.iaload, 1) := by decide +kernel
theorem dX11_alongOf_34 : decode cX11_alongOf 34 = .ok (.i2l, 1) := by decide +kernel
theorem dX11_alongOf_35 : decode cX11_alongOf 35 = .ok (.lload 5, 2) := by decide +kernel
theorem dX11_alongOf_37 : decode cX11_alongOf 37 = .ok (.lmul, 1) := by decide +kernel
theorem dX11_alongOf_38 : decode cX11_alongOf 38 = .ok (.lload_n 3, 1) := by decide +kernel
theorem dX11_alongOf_39 : decode cX11_alongOf 39 = .ok (.lsub, 1) := by decide +kernel
theorem dX11_alongOf_40 : decode cX11_alongOf 40 = .ok (.lstore 8, 2) := by decide +kernel
theorem dX11_alongOf_42 : decode cX11_alongOf 42 = .ok (.lload 5, 2) := by decide +kernel
theorem dX11_alongOf_44 : decode cX11_alongOf 44 = .ok (.lstore_n 3, 1) := by decide +kernel
theorem dX11_alongOf_45 : decode cX11_alongOf 45 = .ok (.lload 8, 2) := by decide +kernel
theorem dX11_alongOf_47 : decode cX11_alongOf 47 = .ok (.lstore 5, 2) := by decide +kernel
theorem dX11_alongOf_49 : decode cX11_alongOf 49 = .ok (.iinc 7 1, 3) := by decide +kernel
theorem dX11_alongOf_52 : decode cX11_alongOf 52 = .ok (.goto (-38), 3) := by decide +kernel
theorem dX11_alongOf_55 : decode cX11_alongOf 55 = .ok (.lload 5, 2) := by decide +kernel
theorem dX11_alongOf_57 : decode cX11_alongOf 57 = .ok (.lreturn, 1) := by decide +kernel
theorem dX11_along_0 : decode cX11_along 0 = .ok (.iload_n 1, 1) := by decide +kernel
theorem dX11_along_1 : decode cX11_along 1 = .ok (.iconst 0, 1) := by decide +kernel
theorem dX11_along_2 : decode cX11_along 2 = .ok (.aload_n 0, 1) := by decide +kernel
theorem dX11_along_3 : decode cX11_along 3 = .ok (.getfield 109, 3) := by decide +kernel
theorem dX11_along_6 : decode cX11_along 6 = .ok (.iconst 1, 1) := by decide +kernel
theorem dX11_along_7 : decode cX11_along 7 = .ok (.isub, 1) := by decide +kernel
theorem dX11_along_8 : decode cX11_along 8 = .ok (.invokestatic 207, 3) := by decide +kernel
theorem dX11_along_11 : decode cX11_along 11 = .ok (.ifCond .eq 22, 3) := by decide +kernel
theorem dX11_along_14 : decode cX11_along 14 = .ok (.iload_n 2, 1) := by decide +kernel
theorem dX11_along_15 : decode cX11_along 15 = .ok (.iconst 0, 1) := by decide +kernel
theorem dX11_along_16 : decode cX11_along 16 = .ok (.bipush 12, 2) := by decide +kernel
theorem dX11_along_18 : decode cX11_along 18 = .ok (.invokestatic 207, 3) := by decide +kernel
theorem dX11_along_21 : decode cX11_along 21 = .ok (.ifCond .eq 12, 3) := by decide +kernel
theorem dX11_along_24 : decode cX11_along 24 = .ok (.aload_n 0, 1) := by decide +kernel
theorem dX11_along_25 : decode cX11_along 25 = .ok (.iload_n 1, 1) := by decide +kernel
theorem dX11_along_26 : decode cX11_along 26 = .ok (.iload_n 2, 1) := by decide +kernel
theorem dX11_along_27 : decode cX11_along 27 = .ok (.invokevirtual 310, 3) := by decide +kernel
theorem dX11_along_30 : decode cX11_along 30 = .ok (.goto 6, 3) := by decide +kernel
theorem dX11_along_33 : decode cX11_along 33 = .ok (.ldc2_w 314, 3) := by decide +kernel
theorem dX11_along_36 : decode cX11_along 36 = .ok (.lreturn, 1) := by decide +kernel
theorem dX11_isAll_0 : decode cX11_isAll 0 = .ok (.iconst 0, 1) := by decide +kernel
theorem dX11_isAll_1 : decode cX11_isAll 1 = .ok (.istore 4, 2) := by decide +kernel
theorem dX11_isAll_3 : decode cX11_isAll 3 = .ok (.iload 4, 2) := by decide +kernel
theorem dX11_isAll_5 : decode cX11_isAll 5 = .ok (.aload_n 0, 1) := by decide +kernel
theorem dX11_isAll_6 : decode cX11_isAll 6 = .ok (.getfield 109, 3) := by decide +kernel
theorem dX11_isAll_9 : decode cX11_isAll 9 = .ok (.if_icmp .ge 23, 3) := by decide +kernel
theorem dX11_isAll_12 : decode cX11_isAll 12 = .ok (.aload_n 0, 1) := by decide +kernel
theorem dX11_isAll_13 : decode cX11_isAll 13 = .ok (.iload 4, 2) := by decide +kernel
theorem dX11_isAll_15 : decode cX11_isAll 15 = .ok (.iload_n 1, 1) := by decide +kernel
theorem dX11_isAll_16 : decode cX11_isAll 16 = .ok (.invokevirtual 310, 3) := by decide +kernel
theorem dX11_isAll_19 : decode cX11_isAll 19 = .ok (.lload_n 2, 1) := by decide +kernel
theorem dX11_isAll_20 : decode cX11_isAll 20 = .ok (.lcmp, 1) := by decide +kernel
theorem dX11_isAll_21 : decode cX11_isAll 21 = .ok (.ifCond .eq 5, 3) := by decide +kernel
theorem dX11_isAll_24 : decode cX11_isAll 24 = .ok (.iconst 0, 1) := by decide +kernel
theorem dX11_isAll_25 : decode cX11_isAll 25 = .ok (.ireturn, 1) := by decide +kernel
theorem dX11_isAll_26 : decode cX11_isAll 26 = .ok (.iinc 4 1, 3) := by decide +kernel
theorem dX11_isAll_29 : decode cX11_isAll 29 = .ok (.goto (-26), 3) := by decide +kernel
theorem dX11_isAll_32 : decode cX11_isAll 32 = .ok (.iconst 1, 1) := by decide +kernel
theorem dX11_isAll_33 : decode cX11_isAll 33 = .ok (.ireturn, 1) := by decide +kernel
theorem dX11_breaks_0 : decode cX11_breaks 0 = .ok (.iload_n 1, 1) := by decide +kernel
theorem dX11_breaks_1 : decode cX11_breaks 1 = .ok (.iconst 0, 1) := by decide +kernel
theorem dX11_breaks_2 : decode cX11_breaks 2 = .ok (.iconst 2, 1) := by decide +kernel
theorem dX11_breaks_3 : decode cX11_breaks 3 = .ok (.invokestatic 207, 3) := by decide +kernel
theorem dX11_breaks_6 : decode cX11_breaks 6 = .ok (.ifCond .ne 5, 3) := by decide +kernel
theorem dX11_breaks_9 : decode cX11_breaks 9 = .ok (.iconst (-1), 1) := by decide +kernel
theorem dX11_breaks_10 : decode cX11_breaks 10 = .ok (.ireturn, 1) := by decide +kernel
theorem dX11_breaks_11 : decode cX11_breaks 11 = .ok (.iconst 2, 1) := by decide +kernel
theorem dX11_breaks_12 : decode cX11_breaks 12 = .ok (.istore_n 2, 1) := by decide +kernel
theorem dX11_breaks_13 : decode cX11_breaks 13 = .ok (.iload_n 2, 1) := by decide +kernel
theorem dX11_breaks_14 : decode cX11_breaks 14 = .ok (.bipush 12, 2) := by decide +kernel
theorem dX11_breaks_16 : decode cX11_breaks 16 = .ok (.if_icmp .gt 90, 3) := by decide +kernel
theorem dX11_breaks_19 : decode cX11_breaks 19 = .ok (.iconst 0, 1) := by decide +kernel
theorem dX11_breaks_20 : decode cX11_breaks 20 = .ok (.istore_n 3, 1) := by decide +kernel
theorem dX11_breaks_21 : decode cX11_breaks 21 = .ok (.iload_n 3, 1) := by decide +kernel
theorem dX11_breaks_22 : decode cX11_breaks 22 = .ok (.aload_n 0, 1) := by decide +kernel
theorem dX11_breaks_23 : decode cX11_breaks 23 = .ok (.getfield 109, 3) := by decide +kernel
theorem dX11_breaks_26 : decode cX11_breaks 26 = .ok (.if_icmp .ge 74, 3) := by decide +kernel
theorem dX11_breaks_29 : decode cX11_breaks 29 = .ok (.aload_n 0, 1) := by decide +kernel
theorem dX11_breaks_30 : decode cX11_breaks 30 = .ok (.iload_n 3, 1) := by decide +kernel
theorem dX11_breaks_31 : decode cX11_breaks 31 = .ok (.iload_n 2, 1) := by decide +kernel
theorem dX11_breaks_32 : decode cX11_breaks 32 = .ok (.invokevirtual 310, 3) := by decide +kernel
theorem dX11_breaks_35 : decode cX11_breaks 35 = .ok (.lconst 0, 1) := by decide +kernel
theorem dX11_breaks_36 : decode cX11_breaks 36 = .ok (.lcmp, 1) := by decide +kernel
theorem dX11_breaks_37 : decode cX11_breaks 37 = .ok (.ifCond .le 6, 3) := by decide +kernel
theorem dX11_breaks_40 : decode cX11_breaks 40 = .ok (.goto 54, 3) := by decide +kernel
theorem dX11_breaks_43 : decode cX11_breaks 43 = .ok (.iload_n 1, 1) := by decide +kernel
theorem dX11_breaks_44 : decode cX11_breaks 44 = .ok (.ifCond .ne 7, 3) := by decide +kernel
theorem dX11_breaks_47 : decode cX11_breaks 47 = .ok (.iload_n 2, 1) := by decide +kernel
theorem dX11_breaks_48 : decode cX11_breaks 48 = .ok (.goto 45, 3) := by decide +kernel
theorem dX11_breaks_51 : decode cX11_breaks 51 = .ok (.iload_n 1, 1) := by decide +kernel
theorem dX11_breaks_52 : decode cX11_breaks 52 = .ok (.iconst 1, 1) := by decide +kernel
theorem dX11_breaks_53 : decode cX11_breaks 53 = .ok (.if_icmp .ne 7, 3) := by decide +kernel
theorem dX11_breaks_56 : decode cX11_breaks 56 = .ok (.iload_n 3, 1) := by decide +kernel
theorem dX11_breaks_57 : decode cX11_breaks 57 = .ok (.goto 36, 3) := by decide +kernel
theorem dX11_breaks_60 : decode cX11_breaks 60 = .ok (.aload_n 0, 1) := by decide +kernel
theorem dX11_breaks_61 : decode cX11_breaks 61 = .ok (.iload_n 2, 1) := by decide +kernel
theorem dX11_breaks_62 : decode cX11_breaks 62 = .ok (.lconst 0, 1) := by decide +kernel
theorem dX11_breaks_63 : decode cX11_breaks 63 = .ok (.invokevirtual 316, 3) := by decide +kernel
theorem dX11_breaks_66 : decode cX11_breaks 66 = .ok (.ifCond .eq 26, 3) := by decide +kernel
theorem dX11_breaks_69 : decode cX11_breaks 69 = .ok (.iload_n 2, 1) := by decide +kernel
theorem dX11_breaks_70 : decode cX11_breaks 70 = .ok (.bipush 12, 2) := by decide +kernel
theorem dX11_breaks_72 : decode cX11_breaks 72 = .ok (.if_icmp .eq 16, 3) := by decide +kernel
theorem dX11_breaks_75 : decode cX11_breaks 75 = .ok (.aload_n 0, 1) := by decide +kernel
theorem dX11_breaks_76 : decode cX11_breaks 76 = .ok (.iload_n 2, 1) := by decide +kernel
theorem dX11_breaks_77 : decode cX11_breaks 77 = .ok (.iconst 1, 1) := by decide +kernel
theorem dX11_breaks_78 : decode cX11_breaks 78 = .ok (.iadd, 1) := by decide +kernel
theorem dX11_breaks_79 : decode cX11_breaks 79 = .ok (.ldc2_w 271, 3) := by decide +kernel
theorem dX11_breaks_82 : decode cX11_breaks 82 = .ok (.invokevirtual 316, 3) := by decide +kernel
theorem dX11_breaks_85 : decode cX11_breaks 85 = .ok (.ifCond .eq 7, 3) := by decide +kernel
theorem dX11_breaks_88 : decode cX11_breaks 88 = .ok (.iconst 1, 1) := by decide +kernel
theorem dX11_breaks_89 : decode cX11_breaks 89 = .ok (.goto 4, 3) := by decide +kernel
theorem dX11_breaks_92 : decode cX11_breaks 92 = .ok (.iconst 0, 1) := by decide +kernel
theorem dX11_breaks_93 : decode cX11_breaks 93 = .ok (.ireturn, 1) := by decide +kernel
theorem dX11_breaks_94 : decode cX11_breaks 94 = .ok (.iinc 3 1, 3) := by decide +kernel
theorem dX11_breaks_97 : decode cX11_breaks 97 = .ok (.goto (-76), 3) := by decide +kernel
theorem dX11_breaks_100 : decode cX11_breaks 100 = .ok (.iinc 2 1, 3) := by decide +kernel
theorem dX11_breaks_103 : decode cX11_breaks 103 = .ok (.goto (-90), 3) := by decide +kernel
theorem dX11_breaks_106 : decode cX11_breaks 106 = .ok (.iconst (-1), 1) := by decide +kernel
theorem dX11_breaks_107 : decode cX11_breaks 107 = .ok (.ireturn, 1) := by decide +kernel
theorem dX11_growth_0 : decode cX11_growth 0 = .ok (.aload_n 0, 1) := by decide +kernel
theorem dX11_growth_1 : decode cX11_growth 1 = .ok (.iconst 0, 1) := by decide +kernel
theorem dX11_growth_2 : decode cX11_growth 2 = .ok (.aload_n 0, 1) := by decide +kernel
theorem dX11_growth_3 : decode cX11_growth 3 = .ok (.getfield 109, 3) := by decide +kernel
theorem dX11_growth_6 : decode cX11_growth 6 = .ok (.iconst 1, 1) := by decide +kernel
theorem dX11_growth_7 : decode cX11_growth 7 = .ok (.iadd, 1) := by decide +kernel
theorem dX11_growth_8 : decode cX11_growth 8 = .ok (.invokevirtual 310, 3) := by decide +kernel
theorem dX11_growth_11 : decode cX11_growth 11 = .ok (.aload_n 0, 1) := by decide +kernel
theorem dX11_growth_12 : decode cX11_growth 12 = .ok (.iconst 1, 1) := by decide +kernel
theorem dX11_growth_13 : decode cX11_growth 13 = .ok (.aload_n 0, 1) := by decide +kernel
theorem dX11_growth_14 : decode cX11_growth 14 = .ok (.getfield 109, 3) := by decide +kernel
theorem dX11_growth_17 : decode cX11_growth 17 = .ok (.irem, 1) := by decide +kernel
theorem dX11_growth_18 : decode cX11_growth 18 = .ok (.aload_n 0, 1) := by decide +kernel
theorem dX11_growth_19 : decode cX11_growth 19 = .ok (.getfield 109, 3) := by decide +kernel
theorem dX11_growth_22 : decode cX11_growth 22 = .ok (.iconst 1, 1) := by decide +kernel
theorem dX11_growth_23 : decode cX11_growth 23 = .ok (.isub, 1) := by decide +kernel
theorem dX11_growth_24 : decode cX11_growth 24 = .ok (.invokevirtual 310, 3) := by decide +kernel
theorem dX11_growth_27 : decode cX11_growth 27 = .ok (.lsub, 1) := by decide +kernel
theorem dX11_growth_28 : decode cX11_growth 28 = .ok (.lreturn, 1) := by decide +kernel
theorem dX11_glue_0 : decode cX11_glue 0 = .ok (.iload_n 1, 1) := by decide +kernel
theorem dX11_glue_1 : decode cX11_glue 1 = .ok (.iconst 0, 1) := by decide +kernel
theorem dX11_glue_2 : decode cX11_glue 2 = .ok (.aload_n 0, 1) := by decide +kernel
theorem dX11_glue_3 : decode cX11_glue 3 = .ok (.getfield 109, 3) := by decide +kernel
theorem dX11_glue_6 : decode cX11_glue 6 = .ok (.iconst 1, 1) := by decide +kernel
theorem dX11_glue_7 : decode cX11_glue 7 = .ok (.isub, 1) := by decide +kernel
theorem dX11_glue_8 : decode cX11_glue 8 = .ok (.invokestatic 207, 3) := by decide +kernel
theorem dX11_glue_11 : decode cX11_glue 11 = .ok (.ifCond .ne 6, 3) := by decide +kernel
theorem dX11_glue_14 : decode cX11_glue 14 = .ok (.bipush (-2), 2) := by decide +kernel
theorem dX11_glue_16 : decode cX11_glue 16 = .ok (.ireturn, 1) := by decide +kernel
theorem dX11_glue_17 : decode cX11_glue 17 = .ok (.aload_n 0, 1) := by decide +kernel
theorem dX11_glue_18 : decode cX11_glue 18 = .ok (.getfield 109, 3) := by decide +kernel
theorem dX11_glue_21 : decode cX11_glue 21 = .ok (.bipush 10, 2) := by decide +kernel
theorem dX11_glue_23 : decode cX11_glue 23 = .ok (.if_icmp .ne 6, 3) := by decide +kernel
theorem dX11_glue_26 : decode cX11_glue 26 = .ok (.bipush (-3), 2) := by decide +kernel
theorem dX11_glue_28 : decode cX11_glue 28 = .ok (.ireturn, 1) := by decide +kernel
theorem dX11_glue_29 : decode cX11_glue 29 = .ok (.iload_n 1, 1) := by decide +kernel
theorem dX11_glue_30 : decode cX11_glue 30 = .ok (.iconst 1, 1) := by decide +kernel
theorem dX11_glue_31 : decode cX11_glue 31 = .ok (.iadd, 1) := by decide +kernel
theorem dX11_glue_32 : decode cX11_glue 32 = .ok (.aload_n 0, 1) := by decide +kernel
theorem dX11_glue_33 : decode cX11_glue 33 = .ok (.getfield 109, 3) := by decide +kernel
theorem dX11_glue_36 : decode cX11_glue 36 = .ok (.irem, 1) := by decide +kernel
theorem dX11_glue_37 : decode cX11_glue 37 = .ok (.istore_n 2, 1) := by decide +kernel
theorem dX11_glue_38 : decode cX11_glue 38 = .ok (.aload_n 0, 1) := by decide +kernel
theorem dX11_glue_39 : decode cX11_glue 39 = .ok (.getfield 109, 3) := by decide +kernel
theorem dX11_glue_42 : decode cX11_glue 42 = .ok (.iconst 1, 1) := by decide +kernel
theorem dX11_glue_43 : decode cX11_glue 43 = .ok (.if_icmp .ne 17, 3) := by decide +kernel
theorem dX11_glue_46 : decode cX11_glue 46 = .ok (.aload_n 0, 1) := by decide +kernel
theorem dX11_glue_47 : decode cX11_glue 47 = .ok (.getfield 67, 3) := by decide +kernel
theorem dX11_glue_50 : decode cX11_glue 50 = .ok (.iconst 0, 1) := by decide +kernel
theorem dX11_glue_51 : decode cX11_glue 51 = .ok (.iaload, 1) := by decide +kernel
theorem dX11_glue_52 : decode cX11_glue 52 = .ok (.bipush 18, 2) := by decide +kernel
theorem dX11_glue_54 : decode cX11_glue 54 = .ok (.if_icmp .le 31, 3) := by decide +kernel
theorem dX11_glue_57 : decode cX11_glue 57 = .ok (.goto 25, 3) := by decide +kernel
theorem dX11_glue_60 : decode cX11_glue 60 = .ok (.aload_n 0, 1) := by decide +kernel
theorem dX11_glue_61 : decode cX11_glue 61 = .ok (.getfield 67, 3) := by decide +kernel
theorem dX11_glue_64 : decode cX11_glue 64 = .ok (.iload_n 1, 1) := by decide +kernel
theorem dX11_glue_65 : decode cX11_glue 65 = .ok (.iaload, 1) := by decide +kernel
theorem dX11_glue_66 : decode cX11_glue 66 = .ok (.bipush 19, 2) := by decide +kernel
theorem dX11_glue_68 : decode cX11_glue 68 = .ok (.if_icmp .gt 14, 3) := by decide +kernel
theorem dX11_glue_71 : decode cX11_glue 71 = .ok (.aload_n 0, 1) := by decide +kernel
theorem dX11_glue_72 : decode cX11_glue 72 = .ok (.getfield 67, 3) := by decide +kernel
theorem dX11_glue_75 : decode cX11_glue 75 = .ok (.iload_n 2, 1) := by decide +kernel
theorem dX11_glue_76 : decode cX11_glue 76 = .ok (.iaload, 1) := by decide +kernel
theorem dX11_glue_77 : decode cX11_glue 77 = .ok (.bipush 19, 2) := by decide +kernel
theorem dX11_glue_79 : decode cX11_glue 79 = .ok (.if_icmp .le 6, 3) := by decide +kernel
theorem dX11_glue_82 : decode cX11_glue 82 = .ok (.bipush (-3), 2) := by decide +kernel
theorem dX11_glue_84 : decode cX11_glue 84 = .ok (.ireturn, 1) := by decide +kernel
theorem dX11_glue_85 : decode cX11_glue 85 = .ok (.aload_n 0, 1) := by decide +kernel
theorem dX11_glue_86 : decode cX11_glue 86 = .ok (.getfield 67, 3) := by decide +kernel
theorem dX11_glue_89 : decode cX11_glue 89 = .ok (.iload_n 1, 1) := by decide +kernel
theorem dX11_glue_90 : decode cX11_glue 90 = .ok (.dup2, 1) := by decide +kernel
theorem dX11_glue_91 : decode cX11_glue 91 = .ok (.iaload, 1) := by decide +kernel
theorem dX11_glue_92 : decode cX11_glue 92 = .ok (.iconst 1, 1) := by decide +kernel
theorem dX11_glue_93 : decode cX11_glue 93 = .ok (.iadd, 1) := by decide +kernel
theorem dX11_glue_94 : decode cX11_glue 94 = .ok (.iastore, 1) := by decide +kernel
theorem dX11_glue_95 : decode cX11_glue 95 = .ok (.aload_n 0, 1) := by decide +kernel
theorem dX11_glue_96 : decode cX11_glue 96 = .ok (.getfield 67, 3) := by decide +kernel
theorem dX11_glue_99 : decode cX11_glue 99 = .ok (.iload_n 2, 1) := by decide +kernel
theorem dX11_glue_100 : decode cX11_glue 100 = .ok (.dup2, 1) := by decide +kernel
theorem dX11_glue_101 : decode cX11_glue 101 = .ok (.iaload, 1) := by decide +kernel
theorem dX11_glue_102 : decode cX11_glue 102 = .ok (.iconst 1, 1) := by decide +kernel
theorem dX11_glue_103 : decode cX11_glue 103 = .ok (.iadd, 1) := by decide +kernel
theorem dX11_glue_104 : decode cX11_glue 104 = .ok (.iastore, 1) := by decide +kernel
theorem dX11_glue_105 : decode cX11_glue 105 = .ok (.aload_n 0, 1) := by decide +kernel
theorem dX11_glue_106 : decode cX11_glue 106 = .ok (.getfield 109, 3) := by decide +kernel
theorem dX11_glue_109 : decode cX11_glue 109 = .ok (.istore_n 3, 1) := by decide +kernel
theorem dX11_glue_110 : decode cX11_glue 110 = .ok (.iload_n 3, 1) := by decide +kernel
theorem dX11_glue_111 : decode cX11_glue 111 = .ok (.iload_n 1, 1) := by decide +kernel
theorem dX11_glue_112 : decode cX11_glue 112 = .ok (.iconst 1, 1) := by decide +kernel
theorem dX11_glue_113 : decode cX11_glue 113 = .ok (.iadd, 1) := by decide +kernel
theorem dX11_glue_114 : decode cX11_glue 114 = .ok (.if_icmp .le 23, 3) := by decide +kernel
theorem dX11_glue_117 : decode cX11_glue 117 = .ok (.aload_n 0, 1) := by decide +kernel
theorem dX11_glue_118 : decode cX11_glue 118 = .ok (.getfield 67, 3) := by decide +kernel
theorem dX11_glue_121 : decode cX11_glue 121 = .ok (.iload_n 3, 1) := by decide +kernel
theorem dX11_glue_122 : decode cX11_glue 122 = .ok (.aload_n 0, 1) := by decide +kernel
theorem dX11_glue_123 : decode cX11_glue 123 = .ok (.getfield 67, 3) := by decide +kernel
theorem dX11_glue_126 : decode cX11_glue 126 = .ok (.iload_n 3, 1) := by decide +kernel
theorem dX11_glue_127 : decode cX11_glue 127 = .ok (.iconst 1, 1) := by decide +kernel
theorem dX11_glue_128 : decode cX11_glue 128 = .ok (.isub, 1) := by decide +kernel
theorem dX11_glue_129 : decode cX11_glue 129 = .ok (.iaload, 1) := by decide +kernel
theorem dX11_glue_130 : decode cX11_glue 130 = .ok (.iastore, 1) := by decide +kernel
theorem dX11_glue_131 : decode cX11_glue 131 = .ok (.iinc 3 (-1), 3) := by decide +kernel
theorem dX11_glue_134 : decode cX11_glue 134 = .ok (.goto (-24), 3) := by decide +kernel
theorem dX11_glue_137 : decode cX11_glue 137 = .ok (.aload_n 0, 1) := by decide +kernel
theorem dX11_glue_138 : decode cX11_glue 138 = .ok (.getfield 67, 3) := by decide +kernel
theorem dX11_glue_141 : decode cX11_glue 141 = .ok (.iload_n 1, 1) := by decide +kernel
theorem dX11_glue_142 : decode cX11_glue 142 = .ok (.iconst 1, 1) := by decide +kernel
theorem dX11_glue_143 : decode cX11_glue 143 = .ok (.iadd, 1) := by decide +kernel
theorem dX11_glue_144 : decode cX11_glue 144 = .ok (.iconst 1, 1) := by decide +kernel
theorem dX11_glue_145 : decode cX11_glue 145 = .ok (.iastore, 1) := by decide +kernel
theorem dX11_glue_146 : decode cX11_glue 146 = .ok (.aload_n 0, 1) := by decide +kernel
theorem dX11_glue_147 : decode cX11_glue 147 = .ok (.dup, 1) := by decide +kernel
theorem dX11_glue_148 : decode cX11_glue 148 = .ok (.getfield 109, 3) := by decide +kernel
theorem dX11_glue_151 : decode cX11_glue 151 = .ok (.iconst 1, 1) := by decide +kernel
theorem dX11_glue_152 : decode cX11_glue 152 = .ok (.iadd, 1) := by decide +kernel
theorem dX11_glue_153 : decode cX11_glue 153 = .ok (.putfield 109, 3) := by decide +kernel
theorem dX11_glue_156 : decode cX11_glue 156 = .ok (.aload_n 0, 1) := by decide +kernel
theorem dX11_glue_157 : decode cX11_glue 157 = .ok (.getfield 109, 3) := by decide +kernel
theorem dX11_glue_160 : decode cX11_glue 160 = .ok (.ireturn, 1) := by decide +kernel
theorem dX11_isOff_0 : decode cX11_isOff 0 = .ok (.aload_n 0, 1) := by decide +kernel
theorem dX11_isOff_1 : decode cX11_isOff 1 = .ok (.getfield 109, 3) := by decide +kernel
theorem dX11_isOff_4 : decode cX11_isOff 4 = .ok (.istore_n 2, 1) := by decide +kernel
theorem dX11_isOff_5 : decode cX11_isOff 5 = .ok (.iload_n 2, 1) := by decide +kernel
theorem dX11_isOff_6 : decode cX11_isOff 6 = .ok (.iconst 2, 1) := by decide +kernel
theorem dX11_isOff_7 : decode cX11_isOff 7 = .ok (.if_icmp .le 47, 3) := by decide +kernel
theorem dX11_isOff_10 : decode cX11_isOff 10 = .ok (.aload_n 0, 1) := by decide +kernel
theorem dX11_isOff_11 : decode cX11_isOff 11 = .ok (.getfield 67, 3) := by decide +kernel
theorem dX11_isOff_14 : decode cX11_isOff 14 = .ok (.iload_n 1, 1) := by decide +kernel
theorem dX11_isOff_15 : decode cX11_isOff 15 = .ok (.iaload, 1) := by decide +kernel
theorem dX11_isOff_16 : decode cX11_isOff 16 = .ok (.iconst 1, 1) := by decide +kernel
theorem dX11_isOff_17 : decode cX11_isOff 17 = .ok (.if_icmp .ne 37, 3) := by decide +kernel
theorem dX11_isOff_20 : decode cX11_isOff 20 = .ok (.aload_n 0, 1) := by decide +kernel
theorem dX11_isOff_21 : decode cX11_isOff 21 = .ok (.getfield 67, 3) := by decide +kernel
theorem dX11_isOff_24 : decode cX11_isOff 24 = .ok (.iload_n 1, 1) := by decide +kernel
theorem dX11_isOff_25 : decode cX11_isOff 25 = .ok (.iconst 1, 1) := by decide +kernel
theorem dX11_isOff_26 : decode cX11_isOff 26 = .ok (.iadd, 1) := by decide +kernel
theorem dX11_isOff_27 : decode cX11_isOff 27 = .ok (.iload_n 2, 1) := by decide +kernel
theorem dX11_isOff_28 : decode cX11_isOff 28 = .ok (.irem, 1) := by decide +kernel
theorem dX11_isOff_29 : decode cX11_isOff 29 = .ok (.iaload, 1) := by decide +kernel
theorem dX11_isOff_30 : decode cX11_isOff 30 = .ok (.iconst 1, 1) := by decide +kernel
theorem dX11_isOff_31 : decode cX11_isOff 31 = .ok (.if_icmp .le 23, 3) := by decide +kernel
theorem dX11_isOff_34 : decode cX11_isOff 34 = .ok (.aload_n 0, 1) := by decide +kernel
theorem dX11_isOff_35 : decode cX11_isOff 35 = .ok (.getfield 67, 3) := by decide +kernel
theorem dX11_isOff_38 : decode cX11_isOff 38 = .ok (.iload_n 1, 1) := by decide +kernel
theorem dX11_isOff_39 : decode cX11_isOff 39 = .ok (.iload_n 2, 1) := by decide +kernel
theorem dX11_isOff_40 : decode cX11_isOff 40 = .ok (.iadd, 1) := by decide +kernel
theorem dX11_isOff_41 : decode cX11_isOff 41 = .ok (.iconst 1, 1) := by decide +kernel
theorem dX11_isOff_42 : decode cX11_isOff 42 = .ok (.isub, 1) := by decide +kernel
theorem dX11_isOff_43 : decode cX11_isOff 43 = .ok (.iload_n 2, 1) := by decide +kernel
theorem dX11_isOff_44 : decode cX11_isOff 44 = .ok (.irem, 1) := by decide +kernel
theorem dX11_isOff_45 : decode cX11_isOff 45 = .ok (.iaload, 1) := by decide +kernel
theorem dX11_isOff_46 : decode cX11_isOff 46 = .ok (.iconst 1, 1) := by decide +kernel
theorem dX11_isOff_47 : decode cX11_isOff 47 = .ok (.if_icmp .le 7, 3) := by decide +kernel
theorem dX11_isOff_50 : decode cX11_isOff 50 = .ok (.iconst 1, 1) := by decide +kernel
theorem dX11_isOff_51 : decode cX11_isOff 51 = .ok (.goto 4, 3) := by decide +kernel
theorem dX11_isOff_54 : decode cX11_isOff 54 = .ok (.iconst 0, 1) := by decide +kernel
theorem dX11_isOff_55 : decode cX11_isOff 55 = .ok (.ireturn, 1) := by decide +kernel
theorem dX11_off_0 : decode cX11_off 0 = .ok (.aload_n 0, 1) := by decide +kernel
theorem dX11_off_1 : decode cX11_off 1 = .ok (.getfield 109, 3) := by decide +kernel
theorem dX11_off_4 : decode cX11_off 4 = .ok (.istore_n 2, 1) := by decide +kernel
theorem dX11_off_5 : decode cX11_off 5 = .ok (.aload_n 0, 1) := by decide +kernel
theorem dX11_off_6 : decode cX11_off 6 = .ok (.getfield 67, 3) := by decide +kernel
theorem dX11_off_9 : decode cX11_off 9 = .ok (.iload_n 1, 1) := by decide +kernel
theorem dX11_off_10 : decode cX11_off 10 = .ok (.iconst 1, 1) := by decide +kernel
theorem dX11_off_11 : decode cX11_off 11 = .ok (.iadd, 1) := by decide +kernel
theorem dX11_off_12 : decode cX11_off 12 = .ok (.iload_n 2, 1) := by decide +kernel
theorem dX11_off_13 : decode cX11_off 13 = .ok (.irem, 1) := by decide +kernel
theorem dX11_off_14 : decode cX11_off 14 = .ok (.dup2, 1) := by decide +kernel
theorem dX11_off_15 : decode cX11_off 15 = .ok (.iaload, 1) := by decide +kernel
theorem dX11_off_16 : decode cX11_off 16 = .ok (.iconst 1, 1) := by decide +kernel
theorem dX11_off_17 : decode cX11_off 17 = .ok (.isub, 1) := by decide +kernel
theorem dX11_off_18 : decode cX11_off 18 = .ok (.iastore, 1) := by decide +kernel
theorem dX11_off_19 : decode cX11_off 19 = .ok (.aload_n 0, 1) := by decide +kernel
theorem dX11_off_20 : decode cX11_off 20 = .ok (.getfield 67, 3) := by decide +kernel
theorem dX11_off_23 : decode cX11_off 23 = .ok (.iload_n 1, 1) := by decide +kernel
theorem dX11_off_24 : decode cX11_off 24 = .ok (.iload_n 2, 1) := by decide +kernel
theorem dX11_off_25 : decode cX11_off 25 = .ok (.iadd, 1) := by decide +kernel
theorem dX11_off_26 : decode cX11_off 26 = .ok (.iconst 1, 1) := by decide +kernel
theorem dX11_off_27 : decode cX11_off 27 = .ok (.isub, 1) := by decide +kernel
theorem dX11_off_28 : decode cX11_off 28 = .ok (.iload_n 2, 1) := by decide +kernel
theorem dX11_off_29 : decode cX11_off 29 = .ok (.irem, 1) := by decide +kernel
theorem dX11_off_30 : decode cX11_off 30 = .ok (.dup2, 1) := by decide +kernel
theorem dX11_off_31 : decode cX11_off 31 = .ok (.iaload, 1) := by decide +kernel
theorem dX11_off_32 : decode cX11_off 32 = .ok (.iconst 1, 1) := by decide +kernel
theorem dX11_off_33 : decode cX11_off 33 = .ok (.isub, 1) := by decide +kernel
theorem dX11_off_34 : decode cX11_off 34 = .ok (.iastore, 1) := by decide +kernel
theorem dX11_off_35 : decode cX11_off 35 = .ok (.iload_n 1, 1) := by decide +kernel
theorem dX11_off_36 : decode cX11_off 36 = .ok (.istore_n 3, 1) := by decide +kernel
theorem dX11_off_37 : decode cX11_off 37 = .ok (.iload_n 3, 1) := by decide +kernel
theorem dX11_off_38 : decode cX11_off 38 = .ok (.iconst 1, 1) := by decide +kernel
theorem dX11_off_39 : decode cX11_off 39 = .ok (.iadd, 1) := by decide +kernel
theorem dX11_off_40 : decode cX11_off 40 = .ok (.iload_n 2, 1) := by decide +kernel
theorem dX11_off_41 : decode cX11_off 41 = .ok (.if_icmp .ge 23, 3) := by decide +kernel
theorem dX11_off_44 : decode cX11_off 44 = .ok (.aload_n 0, 1) := by decide +kernel
theorem dX11_off_45 : decode cX11_off 45 = .ok (.getfield 67, 3) := by decide +kernel
theorem dX11_off_48 : decode cX11_off 48 = .ok (.iload_n 3, 1) := by decide +kernel
theorem dX11_off_49 : decode cX11_off 49 = .ok (.aload_n 0, 1) := by decide +kernel
theorem dX11_off_50 : decode cX11_off 50 = .ok (.getfield 67, 3) := by decide +kernel
theorem dX11_off_53 : decode cX11_off 53 = .ok (.iload_n 3, 1) := by decide +kernel
theorem dX11_off_54 : decode cX11_off 54 = .ok (.iconst 1, 1) := by decide +kernel
theorem dX11_off_55 : decode cX11_off 55 = .ok (.iadd, 1) := by decide +kernel
theorem dX11_off_56 : decode cX11_off 56 = .ok (.iaload, 1) := by decide +kernel
theorem dX11_off_57 : decode cX11_off 57 = .ok (.iastore, 1) := by decide +kernel
theorem dX11_off_58 : decode cX11_off 58 = .ok (.iinc 3 1, 3) := by decide +kernel
theorem dX11_off_61 : decode cX11_off 61 = .ok (.goto (-24), 3) := by decide +kernel
theorem dX11_off_64 : decode cX11_off 64 = .ok (.aload_n 0, 1) := by decide +kernel
theorem dX11_off_65 : decode cX11_off 65 = .ok (.dup, 1) := by decide +kernel
theorem dX11_off_66 : decode cX11_off 66 = .ok (.getfield 109, 3) := by decide +kernel
theorem dX11_off_69 : decode cX11_off 69 = .ok (.iconst 1, 1) := by decide +kernel
theorem dX11_off_70 : decode cX11_off 70 = .ok (.isub, 1) := by decide +kernel
theorem dX11_off_71 : decode cX11_off 71 = .ok (.putfield 109, 3) := by decide +kernel
theorem dX11_off_74 : decode cX11_off 74 = .ok (.return_, 1) := by decide +kernel
theorem dX11_cutOff_0 : decode cX11_cutOff 0 = .ok (.iload_n 1, 1) := by decide +kernel
theorem dX11_cutOff_1 : decode cX11_cutOff 1 = .ok (.iconst 0, 1) := by decide +kernel
theorem dX11_cutOff_2 : decode cX11_cutOff 2 = .ok (.aload_n 0, 1) := by decide +kernel
theorem dX11_cutOff_3 : decode cX11_cutOff 3 = .ok (.getfield 109, 3) := by decide +kernel
theorem dX11_cutOff_6 : decode cX11_cutOff 6 = .ok (.iconst 1, 1) := by decide +kernel
theorem dX11_cutOff_7 : decode cX11_cutOff 7 = .ok (.isub, 1) := by decide +kernel
theorem dX11_cutOff_8 : decode cX11_cutOff 8 = .ok (.invokestatic 207, 3) := by decide +kernel
theorem dX11_cutOff_11 : decode cX11_cutOff 11 = .ok (.ifCond .ne 6, 3) := by decide +kernel
theorem dX11_cutOff_14 : decode cX11_cutOff 14 = .ok (.bipush (-2), 2) := by decide +kernel
theorem dX11_cutOff_16 : decode cX11_cutOff 16 = .ok (.ireturn, 1) := by decide +kernel
theorem dX11_cutOff_17 : decode cX11_cutOff 17 = .ok (.aload_n 0, 1) := by decide +kernel
theorem dX11_cutOff_18 : decode cX11_cutOff 18 = .ok (.iload_n 1, 1) := by decide +kernel
theorem dX11_cutOff_19 : decode cX11_cutOff 19 = .ok (.invokevirtual 320, 3) := by decide +kernel
theorem dX11_cutOff_22 : decode cX11_cutOff 22 = .ok (.ifCond .ne 6, 3) := by decide +kernel
theorem dX11_cutOff_25 : decode cX11_cutOff 25 = .ok (.bipush (-4), 2) := by decide +kernel
theorem dX11_cutOff_27 : decode cX11_cutOff 27 = .ok (.ireturn, 1) := by decide +kernel
theorem dX11_cutOff_28 : decode cX11_cutOff 28 = .ok (.aload_n 0, 1) := by decide +kernel
theorem dX11_cutOff_29 : decode cX11_cutOff 29 = .ok (.iload_n 1, 1) := by decide +kernel
theorem dX11_cutOff_30 : decode cX11_cutOff 30 = .ok (.invokevirtual 323, 3) := by decide +kernel
theorem dX11_cutOff_33 : decode cX11_cutOff 33 = .ok (.aload_n 0, 1) := by decide +kernel
theorem dX11_cutOff_34 : decode cX11_cutOff 34 = .ok (.getfield 109, 3) := by decide +kernel
theorem dX11_cutOff_37 : decode cX11_cutOff 37 = .ok (.ireturn, 1) := by decide +kernel
theorem dX11_core_0 : decode cX11_core 0 = .ok (.iconst 0, 1) := by decide +kernel
theorem dX11_core_1 : decode cX11_core 1 = .ok (.istore_n 1, 1) := by decide +kernel
theorem dX11_core_2 : decode cX11_core 2 = .ok (.iconst 0, 1) := by decide +kernel
theorem dX11_core_3 : decode cX11_core 3 = .ok (.istore_n 2, 1) := by decide +kernel
theorem dX11_core_4 : decode cX11_core 4 = .ok (.iload_n 2, 1) := by decide +kernel
theorem dX11_core_5 : decode cX11_core 5 = .ok (.aload_n 0, 1) := by decide +kernel
theorem dX11_core_6 : decode cX11_core 6 = .ok (.getfield 109, 3) := by decide +kernel
theorem dX11_core_9 : decode cX11_core 9 = .ok (.if_icmp .ge 19, 3) := by decide +kernel
theorem dX11_core_12 : decode cX11_core 12 = .ok (.aload_n 0, 1) := by decide +kernel
theorem dX11_core_13 : decode cX11_core 13 = .ok (.getfield 67, 3) := by decide +kernel
theorem dX11_core_16 : decode cX11_core 16 = .ok (.iload_n 2, 1) := by decide +kernel
theorem dX11_core_17 : decode cX11_core 17 = .ok (.iaload, 1) := by decide +kernel
theorem dX11_core_18 : decode cX11_core 18 = .ok (.iconst 1, 1) := by decide +kernel
theorem dX11_core_19 : decode cX11_core 19 = .ok (.if_icmp .eq 9, 3) := by decide +kernel
theorem dX11_core_22 : decode cX11_core 22 = .ok (.iinc 2 1, 3) := by decide +kernel
theorem dX11_core_25 : decode cX11_core 25 = .ok (.goto (-21), 3) := by decide +kernel
theorem dX11_core_28 : decode cX11_core 28 = .ok (.iload_n 2, 1) := by decide +kernel
theorem dX11_core_29 : decode cX11_core 29 = .ok (.aload_n 0, 1) := by decide +kernel
theorem dX11_core_30 : decode cX11_core 30 = .ok (.getfield 109, 3) := by decide +kernel
theorem dX11_core_33 : decode cX11_core 33 = .ok (.if_icmp .eq 11, 3) := by decide +kernel
theorem dX11_core_36 : decode cX11_core 36 = .ok (.aload_n 0, 1) := by decide +kernel
theorem dX11_core_37 : decode cX11_core 37 = .ok (.iload_n 2, 1) := by decide +kernel
theorem dX11_core_38 : decode cX11_core 38 = .ok (.invokevirtual 320, 3) := by decide +kernel
theorem dX11_core_41 : decode cX11_core 41 = .ok (.ifCond .ne 5, 3) := by decide +kernel
theorem dX11_core_44 : decode cX11_core 44 = .ok (.iload_n 1, 1) := by decide +kernel
theorem dX11_core_45 : decode cX11_core 45 = .ok (.ireturn, 1) := by decide +kernel
theorem dX11_core_46 : decode cX11_core 46 = .ok (.aload_n 0, 1) := by decide +kernel
theorem dX11_core_47 : decode cX11_core 47 = .ok (.iload_n 2, 1) := by decide +kernel
theorem dX11_core_48 : decode cX11_core 48 = .ok (.invokevirtual 323, 3) := by decide +kernel
theorem dX11_core_51 : decode cX11_core 51 = .ok (.iinc 1 1, 3) := by decide +kernel
theorem dX11_core_54 : decode cX11_core 54 = .ok (.goto (-52), 3) := by decide +kernel
theorem dX11_see_0 : decode cX11_see 0 = .ok (.iload_n 1, 1) := by decide +kernel
theorem dX11_see_1 : decode cX11_see 1 = .ok (.aload_n 0, 1) := by decide +kernel
theorem dX11_see_2 : decode cX11_see 2 = .ok (.getfield 198, 3) := by decide +kernel
theorem dX11_see_5 : decode cX11_see 5 = .ok (.sipush 999, 3) := by decide +kernel
theorem dX11_see_8 : decode cX11_see 8 = .ok (.invokestatic 207, 3) := by decide +kernel
theorem dX11_see_11 : decode cX11_see 11 = .ok (.ifCond .eq 36, 3) := by decide +kernel
theorem dX11_see_14 : decode cX11_see 14 = .ok (.aload_n 0, 1) := by decide +kernel
theorem dX11_see_15 : decode cX11_see 15 = .ok (.iload_n 2, 1) := by decide +kernel
theorem dX11_see_16 : decode cX11_see 16 = .ok (.invokevirtual 244, 3) := by decide +kernel
theorem dX11_see_19 : decode cX11_see 19 = .ok (.ifCond .eq 28, 3) := by decide +kernel
theorem dX11_see_22 : decode cX11_see 22 = .ok (.aload_n 0, 1) := by decide +kernel
theorem dX11_see_23 : decode cX11_see 23 = .ok (.iload_n 3, 1) := by decide +kernel
theorem dX11_see_24 : decode cX11_see 24 = .ok (.invokevirtual 244, 3) := by decide +kernel
theorem dX11_see_27 : decode cX11_see 27 = .ok (.ifCond .eq 20, 3) := by decide +kernel
theorem dX11_see_30 : decode cX11_see 30 = .ok (.iload_n 2, 1) := by decide +kernel
theorem dX11_see_31 : decode cX11_see 31 = .ok (.iload_n 3, 1) := by decide +kernel
theorem dX11_see_32 : decode cX11_see 32 = .ok (.if_icmp .eq 15, 3) := by decide +kernel
theorem dX11_see_35 : decode cX11_see 35 = .ok (.iload 4, 2) := by decide +kernel
theorem dX11_see_37 : decode cX11_see 37 = .ok (.iconst 0, 1) := by decide +kernel
theorem dX11_see_38 : decode cX11_see 38 = .ok (.sipush 9999, 3) := by decide +kernel
theorem dX11_see_41 : decode cX11_see 41 = .ok (.invokestatic 207, 3) := by decide +kernel
theorem dX11_see_44 : decode cX11_see 44 = .ok (.ifCond .ne 6, 3) := by decide +kernel
theorem dX11_see_47 : decode cX11_see 47 = .ok (.bipush (-2), 2) := by decide +kernel
theorem dX11_see_49 : decode cX11_see 49 = .ok (.ireturn, 1) := by decide +kernel
theorem dX11_see_50 : decode cX11_see 50 = .ok (.aload_n 0, 1) := by decide +kernel
theorem dX11_see_51 : decode cX11_see 51 = .ok (.getfield 192, 3) := by decide +kernel
theorem dX11_see_54 : decode cX11_see 54 = .ok (.bipush 20, 2) := by decide +kernel
theorem dX11_see_56 : decode cX11_see 56 = .ok (.if_icmp .ne 6, 3) := by decide +kernel
theorem dX11_see_59 : decode cX11_see 59 = .ok (.bipush (-3), 2) := by decide +kernel
theorem dX11_see_61 : decode cX11_see 61 = .ok (.ireturn, 1) := by decide +kernel
theorem dX11_see_62 : decode cX11_see 62 = .ok (.aload_n 0, 1) := by decide +kernel
theorem dX11_see_63 : decode cX11_see 63 = .ok (.iload_n 1, 1) := by decide +kernel
theorem dX11_see_64 : decode cX11_see 64 = .ok (.putfield 198, 3) := by decide +kernel
theorem dX11_see_67 : decode cX11_see 67 = .ok (.aload_n 0, 1) := by decide +kernel
theorem dX11_see_68 : decode cX11_see 68 = .ok (.getfield 70, 3) := by decide +kernel
theorem dX11_see_71 : decode cX11_see 71 = .ok (.aload_n 0, 1) := by decide +kernel
theorem dX11_see_72 : decode cX11_see 72 = .ok (.getfield 192, 3) := by decide +kernel
theorem dX11_see_75 : decode cX11_see 75 = .ok (.iload_n 1, 1) := by decide +kernel
theorem dX11_see_76 : decode cX11_see 76 = .ok (.iastore, 1) := by decide +kernel
theorem dX11_see_77 : decode cX11_see 77 = .ok (.aload_n 0, 1) := by decide +kernel
theorem dX11_see_78 : decode cX11_see 78 = .ok (.getfield 73, 3) := by decide +kernel
theorem dX11_see_81 : decode cX11_see 81 = .ok (.aload_n 0, 1) := by decide +kernel
theorem dX11_see_82 : decode cX11_see 82 = .ok (.getfield 192, 3) := by decide +kernel
theorem dX11_see_85 : decode cX11_see 85 = .ok (.iload_n 2, 1) := by decide +kernel
theorem dX11_see_86 : decode cX11_see 86 = .ok (.iastore, 1) := by decide +kernel
theorem dX11_see_87 : decode cX11_see 87 = .ok (.aload_n 0, 1) := by decide +kernel
theorem dX11_see_88 : decode cX11_see 88 = .ok (.getfield 76, 3) := by decide +kernel
theorem dX11_see_91 : decode cX11_see 91 = .ok (.aload_n 0, 1) := by decide +kernel
theorem dX11_see_92 : decode cX11_see 92 = .ok (.getfield 192, 3) := by decide +kernel
theorem dX11_see_95 : decode cX11_see 95 = .ok (.iload_n 3, 1) := by decide +kernel
theorem dX11_see_96 : decode cX11_see 96 = .ok (.iastore, 1) := by decide +kernel
theorem dX11_see_97 : decode cX11_see 97 = .ok (.aload_n 0, 1) := by decide +kernel
theorem dX11_see_98 : decode cX11_see 98 = .ok (.getfield 79, 3) := by decide +kernel
theorem dX11_see_101 : decode cX11_see 101 = .ok (.aload_n 0, 1) := by decide +kernel
theorem dX11_see_102 : decode cX11_see 102 = .ok (.getfield 192, 3) := by decide +kernel
theorem dX11_see_105 : decode cX11_see 105 = .ok (.iload 4, 2) := by decide +kernel
theorem dX11_see_107 : decode cX11_see 107 = .ok (.iastore, 1) := by decide +kernel
theorem dX11_see_108 : decode cX11_see 108 = .ok (.aload_n 0, 1) := by decide +kernel
theorem dX11_see_109 : decode cX11_see 109 = .ok (.dup, 1) := by decide +kernel
theorem dX11_see_110 : decode cX11_see 110 = .ok (.getfield 192, 3) := by decide +kernel
theorem dX11_see_113 : decode cX11_see 113 = .ok (.iconst 1, 1) := by decide +kernel
theorem dX11_see_114 : decode cX11_see 114 = .ok (.iadd, 1) := by decide +kernel
theorem dX11_see_115 : decode cX11_see 115 = .ok (.putfield 192, 3) := by decide +kernel
theorem dX11_see_118 : decode cX11_see 118 = .ok (.aload_n 0, 1) := by decide +kernel
theorem dX11_see_119 : decode cX11_see 119 = .ok (.getfield 192, 3) := by decide +kernel
theorem dX11_see_122 : decode cX11_see 122 = .ok (.iconst 1, 1) := by decide +kernel
theorem dX11_see_123 : decode cX11_see 123 = .ok (.isub, 1) := by decide +kernel
theorem dX11_see_124 : decode cX11_see 124 = .ok (.ireturn, 1) := by decide +kernel
theorem dX11_right_0 : decode cX11_right 0 = .ok (.iload_n 1, 1) := by decide +kernel
theorem dX11_right_1 : decode cX11_right 1 = .ok (.aload_n 0, 1) := by decide +kernel
theorem dX11_right_2 : decode cX11_right 2 = .ok (.getfield 198, 3) := by decide +kernel
theorem dX11_right_5 : decode cX11_right 5 = .ok (.sipush 999, 3) := by decide +kernel
theorem dX11_right_8 : decode cX11_right 8 = .ok (.invokestatic 207, 3) := by decide +kernel
theorem dX11_right_11 : decode cX11_right 11 = .ok (.ifCond .eq 28, 3) := by decide +kernel
theorem dX11_right_14 : decode cX11_right 14 = .ok (.iload_n 2, 1) := by decide +kernel
theorem dX11_right_15 : decode cX11_right 15 = .ok (.iconst 0, 1) := by decide +kernel
theorem dX11_right_16 : decode cX11_right 16 = .ok (.aload_n 0, 1) := by decide +kernel
theorem dX11_right_17 : decode cX11_right 17 = .ok (.getfield 192, 3) := by decide +kernel
theorem dX11_right_20 : decode cX11_right 20 = .ok (.iconst 1, 1) := by decide +kernel
theorem dX11_right_21 : decode cX11_right 21 = .ok (.isub, 1) := by decide +kernel
theorem dX11_right_22 : decode cX11_right 22 = .ok (.invokestatic 207, 3) := by decide +kernel
theorem dX11_right_25 : decode cX11_right 25 = .ok (.ifCond .eq 14, 3) := by decide +kernel
theorem dX11_right_28 : decode cX11_right 28 = .ok (.iload_n 3, 1) := by decide +kernel
theorem dX11_right_29 : decode cX11_right 29 = .ok (.iconst 0, 1) := by decide +kernel
theorem dX11_right_30 : decode cX11_right 30 = .ok (.sipush 9999, 3) := by decide +kernel
theorem dX11_right_33 : decode cX11_right 33 = .ok (.invokestatic 207, 3) := by decide +kernel
theorem dX11_right_36 : decode cX11_right 36 = .ok (.ifCond .ne 6, 3) := by decide +kernel
theorem dX11_right_39 : decode cX11_right 39 = .ok (.bipush (-2), 2) := by decide +kernel
theorem dX11_right_41 : decode cX11_right 41 = .ok (.ireturn, 1) := by decide +kernel
theorem dX11_right_42 : decode cX11_right 42 = .ok (.aload_n 0, 1) := by decide +kernel
theorem dX11_right_43 : decode cX11_right 43 = .ok (.getfield 195, 3) := by decide +kernel
theorem dX11_right_46 : decode cX11_right 46 = .ok (.bipush 20, 2) := by decide +kernel
theorem dX11_right_48 : decode cX11_right 48 = .ok (.if_icmp .ne 6, 3) := by decide +kernel
theorem dX11_right_51 : decode cX11_right 51 = .ok (.bipush (-3), 2) := by decide +kernel
theorem dX11_right_53 : decode cX11_right 53 = .ok (.ireturn, 1) := by decide +kernel
theorem dX11_right_54 : decode cX11_right 54 = .ok (.aload_n 0, 1) := by decide +kernel
theorem dX11_right_55 : decode cX11_right 55 = .ok (.iload_n 1, 1) := by decide +kernel
theorem dX11_right_56 : decode cX11_right 56 = .ok (.putfield 198, 3) := by decide +kernel
theorem dX11_right_59 : decode cX11_right 59 = .ok (.aload_n 0, 1) := by decide +kernel
theorem dX11_right_60 : decode cX11_right 60 = .ok (.getfield 82, 3) := by decide +kernel
theorem dX11_right_63 : decode cX11_right 63 = .ok (.aload_n 0, 1) := by decide +kernel
theorem dX11_right_64 : decode cX11_right 64 = .ok (.getfield 195, 3) := by decide +kernel
theorem dX11_right_67 : decode cX11_right 67 = .ok (.iload_n 1, 1) := by decide +kernel
theorem dX11_right_68 : decode cX11_right 68 = .ok (.iastore, 1) := by decide +kernel
theorem dX11_right_69 : decode cX11_right 69 = .ok (.aload_n 0, 1) := by decide +kernel
theorem dX11_right_70 : decode cX11_right 70 = .ok (.getfield 85, 3) := by decide +kernel
theorem dX11_right_73 : decode cX11_right 73 = .ok (.aload_n 0, 1) := by decide +kernel
theorem dX11_right_74 : decode cX11_right 74 = .ok (.getfield 195, 3) := by decide +kernel
theorem dX11_right_77 : decode cX11_right 77 = .ok (.iload_n 2, 1) := by decide +kernel
theorem dX11_right_78 : decode cX11_right 78 = .ok (.iastore, 1) := by decide +kernel
theorem dX11_right_79 : decode cX11_right 79 = .ok (.aload_n 0, 1) := by decide +kernel
theorem dX11_right_80 : decode cX11_right 80 = .ok (.getfield 88, 3) := by decide +kernel
theorem dX11_right_83 : decode cX11_right 83 = .ok (.aload_n 0, 1) := by decide +kernel
theorem dX11_right_84 : decode cX11_right 84 = .ok (.getfield 195, 3) := by decide +kernel
theorem dX11_right_87 : decode cX11_right 87 = .ok (.iload_n 3, 1) := by decide +kernel
theorem dX11_right_88 : decode cX11_right 88 = .ok (.iastore, 1) := by decide +kernel
theorem dX11_right_89 : decode cX11_right 89 = .ok (.aload_n 0, 1) := by decide +kernel
theorem dX11_right_90 : decode cX11_right 90 = .ok (.dup, 1) := by decide +kernel
theorem dX11_right_91 : decode cX11_right 91 = .ok (.getfield 195, 3) := by decide +kernel
theorem dX11_right_94 : decode cX11_right 94 = .ok (.iconst 1, 1) := by decide +kernel
theorem dX11_right_95 : decode cX11_right 95 = .ok (.iadd, 1) := by decide +kernel
theorem dX11_right_96 : decode cX11_right 96 = .ok (.putfield 195, 3) := by decide +kernel
theorem dX11_right_99 : decode cX11_right 99 = .ok (.iconst 0, 1) := by decide +kernel
theorem dX11_right_100 : decode cX11_right 100 = .ok (.istore 4, 2) := by decide +kernel
theorem dX11_right_102 : decode cX11_right 102 = .ok (.iconst 0, 1) := by decide +kernel
theorem dX11_right_103 : decode cX11_right 103 = .ok (.istore 5, 2) := by decide +kernel
theorem dX11_right_105 : decode cX11_right 105 = .ok (.iload 5, 2) := by decide +kernel
theorem dX11_right_107 : decode cX11_right 107 = .ok (.aload_n 0, 1) := by decide +kernel
theorem dX11_right_108 : decode cX11_right 108 = .ok (.getfield 195, 3) := by decide +kernel
theorem dX11_right_111 : decode cX11_right 111 = .ok (.if_icmp .ge 30, 3) := by decide +kernel
theorem dX11_right_114 : decode cX11_right 114 = .ok (.iload 4, 2) := by decide +kernel
theorem dX11_right_116 : decode cX11_right 116 = .ok (.aload_n 0, 1) := by decide +kernel
theorem dX11_right_117 : decode cX11_right 117 = .ok (.getfield 85, 3) := by decide +kernel
theorem dX11_right_120 : decode cX11_right 120 = .ok (.iload 5, 2) := by decide +kernel
theorem dX11_right_122 : decode cX11_right 122 = .ok (.iaload, 1) := by decide +kernel
theorem dX11_right_123 : decode cX11_right 123 = .ok (.iload_n 2, 1) := by decide +kernel
theorem dX11_right_124 : decode cX11_right 124 = .ok (.if_icmp .ne 7, 3) := by decide +kernel
theorem dX11_right_127 : decode cX11_right 127 = .ok (.iconst 1, 1) := by decide +kernel
theorem dX11_right_128 : decode cX11_right 128 = .ok (.goto 4, 3) := by decide +kernel
theorem dX11_right_131 : decode cX11_right 131 = .ok (.iconst 0, 1) := by decide +kernel
theorem dX11_right_132 : decode cX11_right 132 = .ok (.iadd, 1) := by decide +kernel
theorem dX11_right_133 : decode cX11_right 133 = .ok (.istore 4, 2) := by decide +kernel
theorem dX11_right_135 : decode cX11_right 135 = .ok (.iinc 5 1, 3) := by decide +kernel
theorem dX11_right_138 : decode cX11_right 138 = .ok (.goto (-33), 3) := by decide +kernel
theorem dX11_right_141 : decode cX11_right 141 = .ok (.iload 4, 2) := by decide +kernel
theorem dX11_right_143 : decode cX11_right 143 = .ok (.ireturn, 1) := by decide +kernel
theorem dX11_isFit_0 : decode cX11_isFit 0 = .ok (.iconst 0, 1) := by decide +kernel
theorem dX11_isFit_1 : decode cX11_isFit 1 = .ok (.istore 4, 2) := by decide +kernel
theorem dX11_isFit_3 : decode cX11_isFit 3 = .ok (.iload 4, 2) := by decide +kernel
theorem dX11_isFit_5 : decode cX11_isFit 5 = .ok (.aload_n 0, 1) := by decide +kernel
theorem dX11_isFit_6 : decode cX11_isFit 6 = .ok (.getfield 192, 3) := by decide +kernel
theorem dX11_isFit_9 : decode cX11_isFit 9 = .ok (.if_icmp .ge 112, 3) := by decide +kernel
theorem dX11_isFit_12 : decode cX11_isFit 12 = .ok (.aload_n 0, 1) := by decide +kernel
theorem dX11_isFit_13 : decode cX11_isFit 13 = .ok (.getfield 70, 3) := by decide +kernel
theorem dX11_isFit_16 : decode cX11_isFit 16 = .ok (.iload 4, 2) := by decide +kernel
theorem dX11_isFit_18 : decode cX11_isFit 18 = .ok (.iaload, 1) := by decide +kernel
theorem dX11_isFit_19 : decode cX11_isFit 19 = .ok (.iload_n 3, 1) := by decide +kernel
theorem dX11_isFit_20 : decode cX11_isFit 20 = .ok (.if_icmp .le 6, 3) := by decide +kernel
theorem dX11_isFit_23 : decode cX11_isFit 23 = .ok (.goto 92, 3) := by decide +kernel
theorem dX11_isFit_26 : decode cX11_isFit 26 = .ok (.aload_n 0, 1) := by decide +kernel
theorem dX11_isFit_27 : decode cX11_isFit 27 = .ok (.getfield 79, 3) := by decide +kernel
theorem dX11_isFit_30 : decode cX11_isFit 30 = .ok (.iload 4, 2) := by decide +kernel
theorem dX11_isFit_32 : decode cX11_isFit 32 = .ok (.iaload, 1) := by decide +kernel
theorem dX11_isFit_33 : decode cX11_isFit 33 = .ok (.istore 5, 2) := by decide +kernel
theorem dX11_isFit_35 : decode cX11_isFit 35 = .ok (.iconst 0, 1) := by decide +kernel
theorem dX11_isFit_36 : decode cX11_isFit 36 = .ok (.istore 6, 2) := by decide +kernel
theorem dX11_isFit_38 : decode cX11_isFit 38 = .ok (.iload 6, 2) := by decide +kernel
theorem dX11_isFit_40 : decode cX11_isFit 40 = .ok (.aload_n 0, 1) := by decide +kernel
theorem dX11_isFit_41 : decode cX11_isFit 41 = .ok (.getfield 195, 3) := by decide +kernel
theorem dX11_isFit_44 : decode cX11_isFit 44 = .ok (.if_icmp .ge 41, 3) := by decide +kernel
theorem dX11_isFit_47 : decode cX11_isFit 47 = .ok (.aload_n 0, 1) := by decide +kernel
theorem dX11_isFit_48 : decode cX11_isFit 48 = .ok (.getfield 85, 3) := by decide +kernel
theorem dX11_isFit_51 : decode cX11_isFit 51 = .ok (.iload 6, 2) := by decide +kernel
theorem dX11_isFit_53 : decode cX11_isFit 53 = .ok (.iaload, 1) := by decide +kernel
theorem dX11_isFit_54 : decode cX11_isFit 54 = .ok (.iload 4, 2) := by decide +kernel
theorem dX11_isFit_56 : decode cX11_isFit 56 = .ok (.if_icmp .ne 23, 3) := by decide +kernel
theorem dX11_isFit_59 : decode cX11_isFit 59 = .ok (.aload_n 0, 1) := by decide +kernel
theorem dX11_isFit_60 : decode cX11_isFit 60 = .ok (.getfield 82, 3) := by decide +kernel
theorem dX11_isFit_63 : decode cX11_isFit 63 = .ok (.iload 6, 2) := by decide +kernel
theorem dX11_isFit_65 : decode cX11_isFit 65 = .ok (.iaload, 1) := by decide +kernel
theorem dX11_isFit_66 : decode cX11_isFit 66 = .ok (.iload_n 3, 1) := by decide +kernel
theorem dX11_isFit_67 : decode cX11_isFit 67 = .ok (.if_icmp .gt 12, 3) := by decide +kernel
theorem dX11_isFit_70 : decode cX11_isFit 70 = .ok (.aload_n 0, 1) := by decide +kernel
theorem dX11_isFit_71 : decode cX11_isFit 71 = .ok (.getfield 88, 3) := by decide +kernel
theorem dX11_isFit_74 : decode cX11_isFit 74 = .ok (.iload 6, 2) := by decide +kernel
theorem dX11_isFit_76 : decode cX11_isFit 76 = .ok (.iaload, 1) := by decide +kernel
theorem dX11_isFit_77 : decode cX11_isFit 77 = .ok (.istore 5, 2) := by decide +kernel
theorem dX11_isFit_79 : decode cX11_isFit 79 = .ok (.iinc 6 1, 3) := by decide +kernel
theorem dX11_isFit_82 : decode cX11_isFit 82 = .ok (.goto (-44), 3) := by decide +kernel
theorem dX11_isFit_85 : decode cX11_isFit 85 = .ok (.aload_n 0, 1) := by decide +kernel
theorem dX11_isFit_86 : decode cX11_isFit 86 = .ok (.aload_n 0, 1) := by decide +kernel
theorem dX11_isFit_87 : decode cX11_isFit 87 = .ok (.getfield 98, 3) := by decide +kernel
theorem dX11_isFit_90 : decode cX11_isFit 90 = .ok (.lload_n 1, 1) := by decide +kernel
theorem dX11_isFit_91 : decode cX11_isFit 91 = .ok (.aload_n 0, 1) := by decide +kernel
theorem dX11_isFit_92 : decode cX11_isFit 92 = .ok (.getfield 73, 3) := by decide +kernel
theorem dX11_isFit_95 : decode cX11_isFit 95 = .ok (.iload 4, 2) := by decide +kernel
theorem dX11_isFit_97 : decode cX11_isFit 97 = .ok (.iaload, 1) := by decide +kernel
theorem dX11_isFit_98 : decode cX11_isFit 98 = .ok (.aload_n 0, 1) := by decide +kernel
theorem dX11_isFit_99 : decode cX11_isFit 99 = .ok (.getfield 76, 3) := by decide +kernel
theorem dX11_isFit_102 : decode cX11_isFit 102 = .ok (.iload 4, 2) := by decide +kernel
theorem dX11_isFit_104 : decode cX11_isFit 104 = .ok (.iaload, 1) := by decide +kernel
theorem dX11_isFit_105 : decode cX11_isFit 105 = .ok (.invokevirtual 247, 3) := by decide +kernel
theorem dX11_isFit_108 : decode cX11_isFit 108 = .ok (.iload 5, 2) := by decide +kernel
theorem dX11_isFit_110 : decode cX11_isFit 110 = .ok (.if_icmp .eq 5, 3) := by decide +kernel
theorem dX11_isFit_113 : decode cX11_isFit 113 = .ok (.iconst 0, 1) := by decide +kernel
theorem dX11_isFit_114 : decode cX11_isFit 114 = .ok (.ireturn, 1) := by decide +kernel
theorem dX11_isFit_115 : decode cX11_isFit 115 = .ok (.iinc 4 1, 3) := by decide +kernel
theorem dX11_isFit_118 : decode cX11_isFit 118 = .ok (.goto (-115), 3) := by decide +kernel
theorem dX11_isFit_121 : decode cX11_isFit 121 = .ok (.iconst 1, 1) := by decide +kernel
theorem dX11_isFit_122 : decode cX11_isFit 122 = .ok (.ireturn, 1) := by decide +kernel
theorem dX11_makeFits_0 : decode cX11_makeFits 0 = .ok (.aload_n 0, 1) := by decide +kernel
theorem dX11_makeFits_1 : decode cX11_makeFits 1 = .ok (.aload_n 0, 1) := by decide +kernel
theorem dX11_makeFits_2 : decode cX11_makeFits 2 = .ok (.getfield 98, 3) := by decide +kernel
theorem dX11_makeFits_5 : decode cX11_makeFits 5 = .ok (.invokevirtual 101, 3) := by decide +kernel
theorem dX11_makeFits_8 : decode cX11_makeFits 8 = .ok (.iconst 0, 1) := by decide +kernel
theorem dX11_makeFits_9 : decode cX11_makeFits 9 = .ok (.istore_n 2, 1) := by decide +kernel
theorem dX11_makeFits_10 : decode cX11_makeFits 10 = .ok (.iconst 0, 1) := by decide +kernel
theorem dX11_makeFits_11 : decode cX11_makeFits 11 = .ok (.istore_n 3, 1) := by decide +kernel
theorem dX11_makeFits_12 : decode cX11_makeFits 12 = .ok (.iload_n 3, 1) := by decide +kernel
theorem dX11_makeFits_13 : decode cX11_makeFits 13 = .ok (.aload_n 0, 1) := by decide +kernel
theorem dX11_makeFits_14 : decode cX11_makeFits 14 = .ok (.getfield 177, 3) := by decide +kernel
theorem dX11_makeFits_17 : decode cX11_makeFits 17 = .ok (.if_icmp .ge 43, 3) := by decide +kernel
theorem dX11_makeFits_20 : decode cX11_makeFits 20 = .ok (.aload_n 0, 1) := by decide +kernel
theorem dX11_makeFits_21 : decode cX11_makeFits 21 = .ok (.getfield 91, 3) := by decide +kernel
theorem dX11_makeFits_24 : decode cX11_makeFits 24 = .ok (.iload_n 3, 1) := by decide +kernel
theorem dX11_makeFits_25 : decode cX11_makeFits 25 = .ok (.aload_n 0, 1) := by decide +kernel
theorem dX11_makeFits_26 : decode cX11_makeFits 26 = .ok (.aload_n 0, 1) := by decide +kernel
theorem dX11_makeFits_27 : decode cX11_makeFits 27 = .ok (.getfield 27, 3) := by decide +kernel
theorem dX11_makeFits_30 : decode cX11_makeFits 30 = .ok (.iload_n 3, 1) := by decide +kernel
theorem dX11_makeFits_31 : decode cX11_makeFits 31 = .ok (.laload, 1) := by decide +kernel
theorem dX11_makeFits_32 : decode cX11_makeFits 32 = .ok (.iload_n 1, 1) := by decide +kernel
theorem dX11_makeFits_33 : decode cX11_makeFits 33 = .ok (.invokevirtual 326, 3) := by decide +kernel
theorem dX11_makeFits_36 : decode cX11_makeFits 36 = .ok (.bastore, 1) := by decide +kernel
theorem dX11_makeFits_37 : decode cX11_makeFits 37 = .ok (.iload_n 2, 1) := by decide +kernel
theorem dX11_makeFits_38 : decode cX11_makeFits 38 = .ok (.aload_n 0, 1) := by decide +kernel
theorem dX11_makeFits_39 : decode cX11_makeFits 39 = .ok (.getfield 91, 3) := by decide +kernel
theorem dX11_makeFits_42 : decode cX11_makeFits 42 = .ok (.iload_n 3, 1) := by decide +kernel
theorem dX11_makeFits_43 : decode cX11_makeFits 43 = .ok (.baload, 1) := by decide +kernel
theorem dX11_makeFits_44 : decode cX11_makeFits 44 = .ok (.ifCond .eq 7, 3) := by decide +kernel
theorem dX11_makeFits_47 : decode cX11_makeFits 47 = .ok (.iconst 1, 1) := by decide +kernel
theorem dX11_makeFits_48 : decode cX11_makeFits 48 = .ok (.goto 4, 3) := by decide +kernel
theorem dX11_makeFits_51 : decode cX11_makeFits 51 = .ok (.iconst 0, 1) := by decide +kernel
theorem dX11_makeFits_52 : decode cX11_makeFits 52 = .ok (.iadd, 1) := by decide +kernel
theorem dX11_makeFits_53 : decode cX11_makeFits 53 = .ok (.istore_n 2, 1) := by decide +kernel
theorem dX11_makeFits_54 : decode cX11_makeFits 54 = .ok (.iinc 3 1, 3) := by decide +kernel
theorem dX11_makeFits_57 : decode cX11_makeFits 57 = .ok (.goto (-45), 3) := by decide +kernel
theorem dX11_makeFits_60 : decode cX11_makeFits 60 = .ok (.iload_n 2, 1) := by decide +kernel
theorem dX11_makeFits_61 : decode cX11_makeFits 61 = .ok (.ireturn, 1) := by decide +kernel
theorem dX11_fit_0 : decode cX11_fit 0 = .ok (.iload_n 1, 1) := by decide +kernel
theorem dX11_fit_1 : decode cX11_fit 1 = .ok (.iconst 0, 1) := by decide +kernel
theorem dX11_fit_2 : decode cX11_fit 2 = .ok (.sipush 999, 3) := by decide +kernel
theorem dX11_fit_5 : decode cX11_fit 5 = .ok (.invokestatic 207, 3) := by decide +kernel
theorem dX11_fit_8 : decode cX11_fit 8 = .ok (.ifCond .eq 12, 3) := by decide +kernel
theorem dX11_fit_11 : decode cX11_fit 11 = .ok (.iload_n 2, 1) := by decide +kernel
theorem dX11_fit_12 : decode cX11_fit 12 = .ok (.iconst 0, 1) := by decide +kernel
theorem dX11_fit_13 : decode cX11_fit 13 = .ok (.iconst 1, 1) := by decide +kernel
theorem dX11_fit_14 : decode cX11_fit 14 = .ok (.invokestatic 207, 3) := by decide +kernel
theorem dX11_fit_17 : decode cX11_fit 17 = .ok (.ifCond .ne 6, 3) := by decide +kernel
theorem dX11_fit_20 : decode cX11_fit 20 = .ok (.bipush (-2), 2) := by decide +kernel
theorem dX11_fit_22 : decode cX11_fit 22 = .ok (.ireturn, 1) := by decide +kernel
theorem dX11_fit_23 : decode cX11_fit 23 = .ok (.aload_n 0, 1) := by decide +kernel
theorem dX11_fit_24 : decode cX11_fit 24 = .ok (.iload_n 1, 1) := by decide +kernel
theorem dX11_fit_25 : decode cX11_fit 25 = .ok (.invokevirtual 330, 3) := by decide +kernel
theorem dX11_fit_28 : decode cX11_fit 28 = .ok (.istore_n 3, 1) := by decide +kernel
theorem dX11_fit_29 : decode cX11_fit 29 = .ok (.iload_n 2, 1) := by decide +kernel
theorem dX11_fit_30 : decode cX11_fit 30 = .ok (.ifCond .ne 5, 3) := by decide +kernel
theorem dX11_fit_33 : decode cX11_fit 33 = .ok (.iload_n 3, 1) := by decide +kernel
theorem dX11_fit_34 : decode cX11_fit 34 = .ok (.ireturn, 1) := by decide +kernel
theorem dX11_fit_35 : decode cX11_fit 35 = .ok (.iconst 0, 1) := by decide +kernel
theorem dX11_fit_36 : decode cX11_fit 36 = .ok (.istore 4, 2) := by decide +kernel
theorem dX11_fit_38 : decode cX11_fit 38 = .ok (.iload 4, 2) := by decide +kernel
theorem dX11_fit_40 : decode cX11_fit 40 = .ok (.aload_n 0, 1) := by decide +kernel
theorem dX11_fit_41 : decode cX11_fit 41 = .ok (.getfield 177, 3) := by decide +kernel
theorem dX11_fit_44 : decode cX11_fit 44 = .ok (.if_icmp .ge 22, 3) := by decide +kernel
theorem dX11_fit_47 : decode cX11_fit 47 = .ok (.aload_n 0, 1) := by decide +kernel
theorem dX11_fit_48 : decode cX11_fit 48 = .ok (.getfield 91, 3) := by decide +kernel
theorem dX11_fit_51 : decode cX11_fit 51 = .ok (.iload 4, 2) := by decide +kernel
theorem dX11_fit_53 : decode cX11_fit 53 = .ok (.baload, 1) := by decide +kernel
theorem dX11_fit_54 : decode cX11_fit 54 = .ok (.ifCond .eq 6, 3) := by decide +kernel
theorem dX11_fit_57 : decode cX11_fit 57 = .ok (.iload 4, 2) := by decide +kernel
theorem dX11_fit_59 : decode cX11_fit 59 = .ok (.ireturn, 1) := by decide +kernel
theorem dX11_fit_60 : decode cX11_fit 60 = .ok (.iinc 4 1, 3) := by decide +kernel
theorem dX11_fit_63 : decode cX11_fit 63 = .ok (.goto (-25), 3) := by decide +kernel
theorem dX11_fit_66 : decode cX11_fit 66 = .ok (.iconst (-1), 1) := by decide +kernel
theorem dX11_fit_67 : decode cX11_fit 67 = .ok (.ireturn, 1) := by decide +kernel
theorem dX11_surely_0 : decode cX11_surely 0 = .ok (.aload_n 0, 1) := by decide +kernel
theorem dX11_surely_1 : decode cX11_surely 1 = .ok (.iload_n 1, 1) := by decide +kernel
theorem dX11_surely_2 : decode cX11_surely 2 = .ok (.invokevirtual 244, 3) := by decide +kernel
theorem dX11_surely_5 : decode cX11_surely 5 = .ok (.ifCond .eq 34, 3) := by decide +kernel
theorem dX11_surely_8 : decode cX11_surely 8 = .ok (.aload_n 0, 1) := by decide +kernel
theorem dX11_surely_9 : decode cX11_surely 9 = .ok (.iload_n 2, 1) := by decide +kernel
theorem dX11_surely_10 : decode cX11_surely 10 = .ok (.invokevirtual 244, 3) := by decide +kernel
theorem dX11_surely_13 : decode cX11_surely 13 = .ok (.ifCond .eq 26, 3) := by decide +kernel
theorem dX11_surely_16 : decode cX11_surely 16 = .ok (.aload_n 0, 1) := by decide +kernel
theorem dX11_surely_17 : decode cX11_surely 17 = .ok (.getfield 98, 3) := by decide +kernel
theorem dX11_surely_20 : decode cX11_surely 20 = .ok (.iload_n 1, 1) := by decide +kernel
theorem dX11_surely_21 : decode cX11_surely 21 = .ok (.iload_n 2, 1) := by decide +kernel
theorem dX11_surely_22 : decode cX11_surely 22 = .ok (.invokestatic 164, 3) := by decide +kernel
theorem dX11_surely_25 : decode cX11_surely 25 = .ok (.ifCond .eq 14, 3) := by decide +kernel
theorem dX11_surely_28 : decode cX11_surely 28 = .ok (.iload_n 3, 1) := by decide +kernel
theorem dX11_surely_29 : decode cX11_surely 29 = .ok (.iconst 0, 1) := by decide +kernel
theorem dX11_surely_30 : decode cX11_surely 30 = .ok (.sipush 999, 3) := by decide +kernel
theorem dX11_surely_33 : decode cX11_surely 33 = .ok (.invokestatic 207, 3) := by decide +kernel
theorem dX11_surely_36 : decode cX11_surely 36 = .ok (.ifCond .ne 6, 3) := by decide +kernel
theorem dX11_surely_39 : decode cX11_surely 39 = .ok (.bipush (-2), 2) := by decide +kernel
theorem dX11_surely_41 : decode cX11_surely 41 = .ok (.ireturn, 1) := by decide +kernel
theorem dX11_surely_42 : decode cX11_surely 42 = .ok (.aload_n 0, 1) := by decide +kernel
theorem dX11_surely_43 : decode cX11_surely 43 = .ok (.iload_n 3, 1) := by decide +kernel
theorem dX11_surely_44 : decode cX11_surely 44 = .ok (.invokevirtual 330, 3) := by decide +kernel
theorem dX11_surely_47 : decode cX11_surely 47 = .ok (.istore 4, 2) := by decide +kernel
theorem dX11_surely_49 : decode cX11_surely 49 = .ok (.iconst 0, 1) := by decide +kernel
theorem dX11_surely_50 : decode cX11_surely 50 = .ok (.istore 5, 2) := by decide +kernel
theorem dX11_surely_52 : decode cX11_surely 52 = .ok (.iconst 0, 1) := by decide +kernel
theorem dX11_surely_53 : decode cX11_surely 53 = .ok (.istore 6, 2) := by decide +kernel
theorem dX11_surely_55 : decode cX11_surely 55 = .ok (.iload 6, 2) := by decide +kernel
theorem dX11_surely_57 : decode cX11_surely 57 = .ok (.aload_n 0, 1) := by decide +kernel
theorem dX11_surely_58 : decode cX11_surely 58 = .ok (.getfield 177, 3) := by decide +kernel
theorem dX11_surely_61 : decode cX11_surely 61 = .ok (.if_icmp .ge 49, 3) := by decide +kernel
theorem dX11_surely_64 : decode cX11_surely 64 = .ok (.iload 5, 2) := by decide +kernel
theorem dX11_surely_66 : decode cX11_surely 66 = .ok (.aload_n 0, 1) := by decide +kernel
theorem dX11_surely_67 : decode cX11_surely 67 = .ok (.getfield 91, 3) := by decide +kernel
theorem dX11_surely_70 : decode cX11_surely 70 = .ok (.iload 6, 2) := by decide +kernel
theorem dX11_surely_72 : decode cX11_surely 72 = .ok (.baload, 1) := by decide +kernel
theorem dX11_surely_73 : decode cX11_surely 73 = .ok (.ifCond .eq 27, 3) := by decide +kernel
theorem dX11_surely_76 : decode cX11_surely 76 = .ok (.aload_n 0, 1) := by decide +kernel
theorem dX11_surely_77 : decode cX11_surely 77 = .ok (.aload_n 0, 1) := by decide +kernel
theorem dX11_surely_78 : decode cX11_surely 78 = .ok (.getfield 98, 3) := by decide +kernel
theorem dX11_surely_81 : decode cX11_surely 81 = .ok (.aload_n 0, 1) := by decide +kernel
theorem dX11_surely_82 : decode cX11_surely 82 = .ok (.getfield 27, 3) := by decide +kernel
theorem dX11_surely_85 : decode cX11_surely 85 = .ok (.iload 6, 2) := by decide +kernel
theorem dX11_surely_87 : decode cX11_surely 87 = .ok (.laload, 1) := by decide +kernel
theorem dX11_surely_88 : decode cX11_surely 88 = .ok (.iload_n 1, 1) := by decide +kernel
theorem dX11_surely_89 : decode cX11_surely 89 = .ok (.iload_n 2, 1) := by decide +kernel
theorem dX11_surely_90 : decode cX11_surely 90 = .ok (.invokevirtual 233, 3) := by decide +kernel
theorem dX11_surely_93 : decode cX11_surely 93 = .ok (.ifCond .eq 7, 3) := by decide +kernel
theorem dX11_surely_96 : decode cX11_surely 96 = .ok (.iconst 1, 1) := by decide +kernel
theorem dX11_surely_97 : decode cX11_surely 97 = .ok (.goto 4, 3) := by decide +kernel
theorem dX11_surely_100 : decode cX11_surely 100 = .ok (.iconst 0, 1) := by decide +kernel
theorem dX11_surely_101 : decode cX11_surely 101 = .ok (.iadd, 1) := by decide +kernel
theorem dX11_surely_102 : decode cX11_surely 102 = .ok (.istore 5, 2) := by decide +kernel
theorem dX11_surely_104 : decode cX11_surely 104 = .ok (.iinc 6 1, 3) := by decide +kernel
theorem dX11_surely_107 : decode cX11_surely 107 = .ok (.goto (-52), 3) := by decide +kernel
theorem dX11_surely_110 : decode cX11_surely 110 = .ok (.iload 4, 2) := by decide +kernel
theorem dX11_surely_112 : decode cX11_surely 112 = .ok (.ifCond .ne 7, 3) := by decide +kernel
theorem dX11_surely_115 : decode cX11_surely 115 = .ok (.iconst (-1), 1) := by decide +kernel
theorem dX11_surely_116 : decode cX11_surely 116 = .ok (.goto 24, 3) := by decide +kernel
theorem dX11_surely_119 : decode cX11_surely 119 = .ok (.iload 5, 2) := by decide +kernel
theorem dX11_surely_121 : decode cX11_surely 121 = .ok (.iload 4, 2) := by decide +kernel
theorem dX11_surely_123 : decode cX11_surely 123 = .ok (.if_icmp .ne 7, 3) := by decide +kernel
theorem dX11_surely_126 : decode cX11_surely 126 = .ok (.iconst 1, 1) := by decide +kernel
theorem dX11_surely_127 : decode cX11_surely 127 = .ok (.goto 13, 3) := by decide +kernel
theorem dX11_surely_130 : decode cX11_surely 130 = .ok (.iload 5, 2) := by decide +kernel
theorem dX11_surely_132 : decode cX11_surely 132 = .ok (.ifCond .ne 7, 3) := by decide +kernel
theorem dX11_surely_135 : decode cX11_surely 135 = .ok (.iconst 0, 1) := by decide +kernel
theorem dX11_surely_136 : decode cX11_surely 136 = .ok (.goto 4, 3) := by decide +kernel
theorem dX11_surely_139 : decode cX11_surely 139 = .ok (.iconst 2, 1) := by decide +kernel
theorem dX11_surely_140 : decode cX11_surely 140 = .ok (.ireturn, 1) := by decide +kernel
theorem dX11_ask_0 : decode cX11_ask 0 = .ok (.iload_n 1, 1) := by decide +kernel
theorem dX11_ask_1 : decode cX11_ask 1 = .ok (.iconst 0, 1) := by decide +kernel
theorem dX11_ask_2 : decode cX11_ask 2 = .ok (.sipush 999, 3) := by decide +kernel
theorem dX11_ask_5 : decode cX11_ask 5 = .ok (.invokestatic 207, 3) := by decide +kernel
theorem dX11_ask_8 : decode cX11_ask 8 = .ok (.ifCond .ne 6, 3) := by decide +kernel
theorem dX11_ask_11 : decode cX11_ask 11 = .ok (.bipush (-2), 2) := by decide +kernel
theorem dX11_ask_13 : decode cX11_ask 13 = .ok (.ireturn, 1) := by decide +kernel
