theorem dX9_init_0 : decode cX9_init 0 = .ok (.aload_n 0, 1) := by decide +kernel
theorem dX9_init_1 : decode cX9_init 1 = .ok (.invokespecial 3, 3) := by decide +kernel
theorem dX9_init_4 : decode cX9_init 4 = .ok (.aload_n 0, 1) := by decide +kernel
theorem dX9_init_5 : decode cX9_init 5 = .ok (.bipush 21, 2) := by decide +kernel
theorem dX9_init_7 : decode cX9_init 7 = .ok (.newarray .int, 2) := by decide +kernel
theorem dX9_init_9 : decode cX9_init 9 = .ok (.putfield 11, 3) := by decide +kernel
theorem dX9_init_12 : decode cX9_init 12 = .ok (.aload_n 0, 1) := by decide +kernel
theorem dX9_init_13 : decode cX9_init 13 = .ok (.bipush 7, 2) := by decide +kernel
theorem dX9_init_15 : decode cX9_init 15 = .ok (.newarray .int, 2) := by decide +kernel
theorem dX9_init_17 : decode cX9_init 17 = .ok (.putfield 15, 3) := by decide +kernel
theorem dX9_init_20 : decode cX9_init 20 = .ok (.return_, 1) := by decide +kernel
theorem dX9_gather_0 : decode cX9_gather 0 = .ok (.aload_n 0, 1) := by decide +kernel
theorem dX9_gather_1 : decode cX9_gather 1 = .ok (.iconst 0, 1) := by decide +kernel
theorem dX9_gather_2 : decode cX9_gather 2 = .ok (.putfield 18, 3) := by decide +kernel
theorem dX9_gather_5 : decode cX9_gather 5 = .ok (.iconst 0, 1) := by decide +kernel
theorem dX9_gather_6 : decode cX9_gather 6 = .ok (.istore_n 3, 1) := by decide +kernel
theorem dX9_gather_7 : decode cX9_gather 7 = .ok (.iload_n 3, 1) := by decide +kernel
theorem dX9_gather_8 : decode cX9_gather 8 = .ok (.aload_n 1, 1) := by decide +kernel
theorem dX9_gather_9 : decode cX9_gather 9 = .ok (.invokevirtual 22, 3) := by decide +kernel
theorem dX9_gather_12 : decode cX9_gather 12 = .ok (.if_icmp .ge 49, 3) := by decide +kernel
theorem dX9_gather_15 : decode cX9_gather 15 = .ok (.iload_n 3, 1) := by decide +kernel
theorem dX9_gather_16 : decode cX9_gather 16 = .ok (.iconst 1, 1) := by decide +kernel
theorem dX9_gather_17 : decode cX9_gather 17 = .ok (.iadd, 1) := by decide +kernel
theorem dX9_gather_18 : decode cX9_gather 18 = .ok (.istore 4, 2) := by decide +kernel
theorem dX9_gather_20 : decode cX9_gather 20 = .ok (.iload 4, 2) := by decide +kernel
theorem dX9_gather_22 : decode cX9_gather 22 = .ok (.aload_n 1, 1) := by decide +kernel
theorem dX9_gather_23 : decode cX9_gather 23 = .ok (.invokevirtual 22, 3) := by decide +kernel
theorem dX9_gather_26 : decode cX9_gather 26 = .ok (.if_icmp .ge 29, 3) := by decide +kernel
theorem dX9_gather_29 : decode cX9_gather 29 = .ok (.aload_n 1, 1) := by decide +kernel
theorem dX9_gather_30 : decode cX9_gather 30 = .ok (.iload_n 2, 1) := by decide +kernel
theorem dX9_gather_31 : decode cX9_gather 31 = .ok (.iload_n 3, 1) := by decide +kernel
theorem dX9_gather_32 : decode cX9_gather 32 = .ok (.iload 4, 2) := by decide +kernel
theorem dX9_gather_34 : decode cX9_gather 34 = .ok (.invokevirtual 28, 3) := by decide +kernel
theorem dX9_gather_37 : decode cX9_gather 37 = .ok (.ifCond .eq 12, 3) := by decide +kernel
theorem dX9_gather_40 : decode cX9_gather 40 = .ok (.aload_n 0, 1) := by decide +kernel
theorem dX9_gather_41 : decode cX9_gather 41 = .ok (.aload_n 1, 1) := by decide +kernel
theorem dX9_gather_42 : decode cX9_gather 42 = .ok (.iload_n 2, 1) := by decide +kernel
theorem dX9_gather_43 : decode cX9_gather 43 = .ok (.iload_n 3, 1) := by decide +kernel
theorem dX9_gather_44 : decode cX9_gather 44 = .ok (.iload 4, 2) := by decide +kernel
theorem dX9_gather_46 : decode cX9_gather 46 = .ok (.invokevirtual 32, 3) := by decide +kernel
theorem dX9_gather_49 : decode cX9_gather 49 = .ok (.iinc 4 1, 3) := by decide +kernel
theorem dX9_gather_52 : decode cX9_gather 52 = .ok (.goto (-32), 3) := by decide +kernel
theorem dX9_gather_55 : decode cX9_gather 55 = .ok (.iinc 3 1, 3) := by decide +kernel
theorem dX9_gather_58 : decode cX9_gather 58 = .ok (.goto (-51), 3) := by decide +kernel
theorem dX9_gather_61 : decode cX9_gather 61 = .ok (.return_, 1) := by decide +kernel
theorem dX9_gatherOn_0 : decode cX9_gatherOn 0 = .ok (.iload 4, 2) := by decide +kernel
theorem dX9_gatherOn_2 : decode cX9_gatherOn 2 = .ok (.iconst 1, 1) := by decide +kernel
theorem dX9_gatherOn_3 : decode cX9_gatherOn 3 = .ok (.iadd, 1) := by decide +kernel
theorem dX9_gatherOn_4 : decode cX9_gatherOn 4 = .ok (.istore 5, 2) := by decide +kernel
theorem dX9_gatherOn_6 : decode cX9_gatherOn 6 = .ok (.iload 5, 2) := by decide +kernel
theorem dX9_gatherOn_8 : decode cX9_gatherOn 8 = .ok (.aload_n 1, 1) := by decide +kernel
theorem dX9_gatherOn_9 : decode cX9_gatherOn 9 = .ok (.invokevirtual 22, 3) := by decide +kernel
theorem dX9_gatherOn_12 : decode cX9_gatherOn 12 = .ok (.if_icmp .ge 105, 3) := by decide +kernel
theorem dX9_gatherOn_15 : decode cX9_gatherOn 15 = .ok (.aload_n 1, 1) := by decide +kernel
theorem dX9_gatherOn_16 : decode cX9_gatherOn 16 = .ok (.iload_n 2, 1) := by decide +kernel
theorem dX9_gatherOn_17 : decode cX9_gatherOn 17 = .ok (.iload_n 3, 1) := by decide +kernel
theorem dX9_gatherOn_18 : decode cX9_gatherOn 18 = .ok (.iload 5, 2) := by decide +kernel
theorem dX9_gatherOn_20 : decode cX9_gatherOn 20 = .ok (.invokevirtual 28, 3) := by decide +kernel
theorem dX9_gatherOn_23 : decode cX9_gatherOn 23 = .ok (.ifCond .eq 19, 3) := by decide +kernel
theorem dX9_gatherOn_26 : decode cX9_gatherOn 26 = .ok (.aload_n 1, 1) := by decide +kernel
theorem dX9_gatherOn_27 : decode cX9_gatherOn 27 = .ok (.iload_n 2, 1) := by decide +kernel
theorem dX9_gatherOn_28 : decode cX9_gatherOn 28 = .ok (.iload 4, 2) := by decide +kernel
theorem dX9_gatherOn_30 : decode cX9_gatherOn 30 = .ok (.iload 5, 2) := by decide +kernel
theorem dX9_gatherOn_32 : decode cX9_gatherOn 32 = .ok (.invokevirtual 28, 3) := by decide +kernel
theorem dX9_gatherOn_35 : decode cX9_gatherOn 35 = .ok (.ifCond .eq 7, 3) := by decide +kernel
theorem dX9_gatherOn_38 : decode cX9_gatherOn 38 = .ok (.iconst 1, 1) := by decide +kernel
theorem dX9_gatherOn_39 : decode cX9_gatherOn 39 = .ok (.goto 4, 3) := by decide +kernel
theorem dX9_gatherOn_42 : decode cX9_gatherOn 42 = .ok (.iconst 0, 1) := by decide +kernel
theorem dX9_gatherOn_43 : decode cX9_gatherOn 43 = .ok (.istore 6, 2) := by decide +kernel
theorem dX9_gatherOn_45 : decode cX9_gatherOn 45 = .ok (.iload 6, 2) := by decide +kernel
theorem dX9_gatherOn_47 : decode cX9_gatherOn 47 = .ok (.ifCond .eq 64, 3) := by decide +kernel
theorem dX9_gatherOn_50 : decode cX9_gatherOn 50 = .ok (.aload_n 0, 1) := by decide +kernel
theorem dX9_gatherOn_51 : decode cX9_gatherOn 51 = .ok (.getfield 18, 3) := by decide +kernel
theorem dX9_gatherOn_54 : decode cX9_gatherOn 54 = .ok (.bipush 7, 2) := by decide +kernel
theorem dX9_gatherOn_56 : decode cX9_gatherOn 56 = .ok (.if_icmp .ge 55, 3) := by decide +kernel
theorem dX9_gatherOn_59 : decode cX9_gatherOn 59 = .ok (.aload_n 0, 1) := by decide +kernel
theorem dX9_gatherOn_60 : decode cX9_gatherOn 60 = .ok (.getfield 11, 3) := by decide +kernel
theorem dX9_gatherOn_63 : decode cX9_gatherOn 63 = .ok (.iconst 3, 1) := by decide +kernel
theorem dX9_gatherOn_64 : decode cX9_gatherOn 64 = .ok (.aload_n 0, 1) := by decide +kernel
theorem dX9_gatherOn_65 : decode cX9_gatherOn 65 = .ok (.getfield 18, 3) := by decide +kernel
theorem dX9_gatherOn_68 : decode cX9_gatherOn 68 = .ok (.imul, 1) := by decide +kernel
theorem dX9_gatherOn_69 : decode cX9_gatherOn 69 = .ok (.iload_n 3, 1) := by decide +kernel
theorem dX9_gatherOn_70 : decode cX9_gatherOn 70 = .ok (.iastore, 1) := by decide +kernel
theorem dX9_gatherOn_71 : decode cX9_gatherOn 71 = .ok (.aload_n 0, 1) := by decide +kernel
theorem dX9_gatherOn_72 : decode cX9_gatherOn 72 = .ok (.getfield 11, 3) := by decide +kernel
theorem dX9_gatherOn_75 : decode cX9_gatherOn 75 = .ok (.iconst 3, 1) := by decide +kernel
theorem dX9_gatherOn_76 : decode cX9_gatherOn 76 = .ok (.aload_n 0, 1) := by decide +kernel
theorem dX9_gatherOn_77 : decode cX9_gatherOn 77 = .ok (.getfield 18, 3) := by decide +kernel
theorem dX9_gatherOn_80 : decode cX9_gatherOn 80 = .ok (.imul, 1) := by decide +kernel
theorem dX9_gatherOn_81 : decode cX9_gatherOn 81 = .ok (.iconst 1, 1) := by decide +kernel
theorem dX9_gatherOn_82 : decode cX9_gatherOn 82 = .ok (.iadd, 1) := by decide +kernel
theorem dX9_gatherOn_83 : decode cX9_gatherOn 83 = .ok (.iload 4, 2) := by decide +kernel
theorem dX9_gatherOn_85 : decode cX9_gatherOn 85 = .ok (.iastore, 1) := by decide +kernel
theorem dX9_gatherOn_86 : decode cX9_gatherOn 86 = .ok (.aload_n 0, 1) := by decide +kernel
theorem dX9_gatherOn_87 : decode cX9_gatherOn 87 = .ok (.getfield 11, 3) := by decide +kernel
theorem dX9_gatherOn_90 : decode cX9_gatherOn 90 = .ok (.iconst 3, 1) := by decide +kernel
theorem dX9_gatherOn_91 : decode cX9_gatherOn 91 = .ok (.aload_n 0, 1) := by decide +kernel
theorem dX9_gatherOn_92 : decode cX9_gatherOn 92 = .ok (.getfield 18, 3) := by decide +kernel
theorem dX9_gatherOn_95 : decode cX9_gatherOn 95 = .ok (.imul, 1) := by decide +kernel
theorem dX9_gatherOn_96 : decode cX9_gatherOn 96 = .ok (.iconst 2, 1) := by decide +kernel
theorem dX9_gatherOn_97 : decode cX9_gatherOn 97 = .ok (.iadd, 1) := by decide +kernel
theorem dX9_gatherOn_98 : decode cX9_gatherOn 98 = .ok (.iload 5, 2) := by decide +kernel
theorem dX9_gatherOn_100 : decode cX9_gatherOn 100 = .ok (.iastore, 1) := by decide +kernel
theorem dX9_gatherOn_101 : decode cX9_gatherOn 101 = .ok (.aload_n 0, 1) := by decide +kernel
theorem dX9_gatherOn_102 : decode cX9_gatherOn 102 = .ok (.dup, 1) := by decide +kernel
theorem dX9_gatherOn_103 : decode cX9_gatherOn 103 = .ok (.getfield 18, 3) := by decide +kernel
theorem dX9_gatherOn_106 : decode cX9_gatherOn 106 = .ok (.iconst 1, 1) := by decide +kernel
theorem dX9_gatherOn_107 : decode cX9_gatherOn 107 = .ok (.iadd, 1) := by decide +kernel
theorem dX9_gatherOn_108 : decode cX9_gatherOn 108 = .ok (.putfield 18, 3) := by decide +kernel
theorem dX9_gatherOn_111 : decode cX9_gatherOn 111 = .ok (.iinc 5 1, 3) := by decide +kernel
theorem dX9_gatherOn_114 : decode cX9_gatherOn 114 = .ok (.goto (-108), 3) := by decide +kernel
theorem dX9_gatherOn_117 : decode cX9_gatherOn 117 = .ok (.return_, 1) := by decide +kernel
theorem dX9_cornerOf_0 : decode cX9_cornerOf 0 = .ok (.iload_n 1, 1) := by decide +kernel
theorem dX9_cornerOf_1 : decode cX9_cornerOf 1 = .ok (.ifCond .lt 20, 3) := by decide +kernel
theorem dX9_cornerOf_4 : decode cX9_cornerOf 4 = .ok (.iload_n 1, 1) := by decide +kernel
theorem dX9_cornerOf_5 : decode cX9_cornerOf 5 = .ok (.aload_n 0, 1) := by decide +kernel
theorem dX9_cornerOf_6 : decode cX9_cornerOf 6 = .ok (.getfield 18, 3) := by decide +kernel
theorem dX9_cornerOf_9 : decode cX9_cornerOf 9 = .ok (.if_icmp .ge 12, 3) := by decide +kernel
theorem dX9_cornerOf_12 : decode cX9_cornerOf 12 = .ok (.iload_n 2, 1) := by decide +kernel
theorem dX9_cornerOf_13 : decode cX9_cornerOf 13 = .ok (.ifCond .lt 8, 3) := by decide +kernel
theorem dX9_cornerOf_16 : decode cX9_cornerOf 16 = .ok (.iload_n 2, 1) := by decide +kernel
theorem dX9_cornerOf_17 : decode cX9_cornerOf 17 = .ok (.iconst 2, 1) := by decide +kernel
theorem dX9_cornerOf_18 : decode cX9_cornerOf 18 = .ok (.if_icmp .le 5, 3) := by decide +kernel
theorem dX9_cornerOf_21 : decode cX9_cornerOf 21 = .ok (.iconst (-1), 1) := by decide +kernel
theorem dX9_cornerOf_22 : decode cX9_cornerOf 22 = .ok (.ireturn, 1) := by decide +kernel
theorem dX9_cornerOf_23 : decode cX9_cornerOf 23 = .ok (.aload_n 0, 1) := by decide +kernel
theorem dX9_cornerOf_24 : decode cX9_cornerOf 24 = .ok (.getfield 11, 3) := by decide +kernel
theorem dX9_cornerOf_27 : decode cX9_cornerOf 27 = .ok (.iconst 3, 1) := by decide +kernel
theorem dX9_cornerOf_28 : decode cX9_cornerOf 28 = .ok (.iload_n 1, 1) := by decide +kernel
theorem dX9_cornerOf_29 : decode cX9_cornerOf 29 = .ok (.imul, 1) := by decide +kernel
theorem dX9_cornerOf_30 : decode cX9_cornerOf 30 = .ok (.iload_n 2, 1) := by decide +kernel
theorem dX9_cornerOf_31 : decode cX9_cornerOf 31 = .ok (.iadd, 1) := by decide +kernel
theorem dX9_cornerOf_32 : decode cX9_cornerOf 32 = .ok (.iaload, 1) := by decide +kernel
theorem dX9_cornerOf_33 : decode cX9_cornerOf 33 = .ok (.ireturn, 1) := by decide +kernel
theorem dX9_touches_0 : decode cX9_touches 0 = .ok (.aload_n 0, 1) := by decide +kernel
theorem dX9_touches_1 : decode cX9_touches 1 = .ok (.iload_n 1, 1) := by decide +kernel
theorem dX9_touches_2 : decode cX9_touches 2 = .ok (.iconst 0, 1) := by decide +kernel
theorem dX9_touches_3 : decode cX9_touches 3 = .ok (.invokevirtual 36, 3) := by decide +kernel
theorem dX9_touches_6 : decode cX9_touches 6 = .ok (.iload_n 2, 1) := by decide +kernel
theorem dX9_touches_7 : decode cX9_touches 7 = .ok (.if_icmp .eq 23, 3) := by decide +kernel
theorem dX9_touches_10 : decode cX9_touches 10 = .ok (.aload_n 0, 1) := by decide +kernel
theorem dX9_touches_11 : decode cX9_touches 11 = .ok (.iload_n 1, 1) := by decide +kernel
theorem dX9_touches_12 : decode cX9_touches 12 = .ok (.iconst 1, 1) := by decide +kernel
theorem dX9_touches_13 : decode cX9_touches 13 = .ok (.invokevirtual 36, 3) := by decide +kernel
theorem dX9_touches_16 : decode cX9_touches 16 = .ok (.iload_n 2, 1) := by decide +kernel
theorem dX9_touches_17 : decode cX9_touches 17 = .ok (.if_icmp .eq 13, 3) := by decide +kernel
theorem dX9_touches_20 : decode cX9_touches 20 = .ok (.aload_n 0, 1) := by decide +kernel
theorem dX9_touches_21 : decode cX9_touches 21 = .ok (.iload_n 1, 1) := by decide +kernel
theorem dX9_touches_22 : decode cX9_touches 22 = .ok (.iconst 2, 1) := by decide +kernel
theorem dX9_touches_23 : decode cX9_touches 23 = .ok (.invokevirtual 36, 3) := by decide +kernel
theorem dX9_touches_26 : decode cX9_touches 26 = .ok (.iload_n 2, 1) := by decide +kernel
theorem dX9_touches_27 : decode cX9_touches 27 = .ok (.if_icmp .ne 7, 3) := by decide +kernel
theorem dX9_touches_30 : decode cX9_touches 30 = .ok (.iconst 1, 1) := by decide +kernel
theorem dX9_touches_31 : decode cX9_touches 31 = .ok (.goto 4, 3) := by decide +kernel
theorem dX9_touches_34 : decode cX9_touches 34 = .ok (.iconst 0, 1) := by decide +kernel
theorem dX9_touches_35 : decode cX9_touches 35 = .ok (.ireturn, 1) := by decide +kernel
theorem dX9_onWay_0 : decode cX9_onWay 0 = .ok (.aload_n 0, 1) := by decide +kernel
theorem dX9_onWay_1 : decode cX9_onWay 1 = .ok (.aload_n 1, 1) := by decide +kernel
theorem dX9_onWay_2 : decode cX9_onWay 2 = .ok (.putfield 40, 3) := by decide +kernel
theorem dX9_onWay_5 : decode cX9_onWay 5 = .ok (.aload_n 0, 1) := by decide +kernel
theorem dX9_onWay_6 : decode cX9_onWay 6 = .ok (.iload_n 2, 1) := by decide +kernel
theorem dX9_onWay_7 : decode cX9_onWay 7 = .ok (.putfield 44, 3) := by decide +kernel
theorem dX9_onWay_10 : decode cX9_onWay 10 = .ok (.aload_n 0, 1) := by decide +kernel
theorem dX9_onWay_11 : decode cX9_onWay 11 = .ok (.aload_n 1, 1) := by decide +kernel
theorem dX9_onWay_12 : decode cX9_onWay 12 = .ok (.iload_n 2, 1) := by decide +kernel
theorem dX9_onWay_13 : decode cX9_onWay 13 = .ok (.iload_n 3, 1) := by decide +kernel
theorem dX9_onWay_14 : decode cX9_onWay 14 = .ok (.invokevirtual 47, 3) := by decide +kernel
theorem dX9_onWay_17 : decode cX9_onWay 17 = .ok (.iconst 1, 1) := by decide +kernel
theorem dX9_onWay_18 : decode cX9_onWay 18 = .ok (.isub, 1) := by decide +kernel
theorem dX9_onWay_19 : decode cX9_onWay 19 = .ok (.putfield 50, 3) := by decide +kernel
theorem dX9_onWay_22 : decode cX9_onWay 22 = .ok (.aload_n 0, 1) := by decide +kernel
theorem dX9_onWay_23 : decode cX9_onWay 23 = .ok (.iload 4, 2) := by decide +kernel
theorem dX9_onWay_25 : decode cX9_onWay 25 = .ok (.putfield 53, 3) := by decide +kernel
theorem dX9_onWay_28 : decode cX9_onWay 28 = .ok (.aload_n 0, 1) := by decide +kernel
theorem dX9_onWay_29 : decode cX9_onWay 29 = .ok (.getfield 50, 3) := by decide +kernel
theorem dX9_onWay_32 : decode cX9_onWay 32 = .ok (.bipush 7, 2) := by decide +kernel
theorem dX9_onWay_34 : decode cX9_onWay 34 = .ok (.if_icmp .gt 17, 3) := by decide +kernel
theorem dX9_onWay_37 : decode cX9_onWay 37 = .ok (.iload 5, 2) := by decide +kernel
theorem dX9_onWay_39 : decode cX9_onWay 39 = .ok (.ifCond .lt 12, 3) := by decide +kernel
theorem dX9_onWay_42 : decode cX9_onWay 42 = .ok (.iload 5, 2) := by decide +kernel
theorem dX9_onWay_44 : decode cX9_onWay 44 = .ok (.aload_n 0, 1) := by decide +kernel
theorem dX9_onWay_45 : decode cX9_onWay 45 = .ok (.getfield 50, 3) := by decide +kernel
theorem dX9_onWay_48 : decode cX9_onWay 48 = .ok (.if_icmp .lt 5, 3) := by decide +kernel
theorem dX9_onWay_51 : decode cX9_onWay 51 = .ok (.iconst (-1), 1) := by decide +kernel
theorem dX9_onWay_52 : decode cX9_onWay 52 = .ok (.ireturn, 1) := by decide +kernel
theorem dX9_onWay_53 : decode cX9_onWay 53 = .ok (.aload_n 0, 1) := by decide +kernel
theorem dX9_onWay_54 : decode cX9_onWay 54 = .ok (.iconst 0, 1) := by decide +kernel
theorem dX9_onWay_55 : decode cX9_onWay 55 = .ok (.iconst 0, 1) := by decide +kernel
theorem dX9_onWay_56 : decode cX9_onWay 56 = .ok (.invokevirtual 56, 3) := by decide +kernel
theorem dX9_onWay_59 : decode cX9_onWay 59 = .ok (.ifCond .eq 13, 3) := by decide +kernel
theorem dX9_onWay_62 : decode cX9_onWay 62 = .ok (.aload_n 0, 1) := by decide +kernel
theorem dX9_onWay_63 : decode cX9_onWay 63 = .ok (.getfield 15, 3) := by decide +kernel
theorem dX9_onWay_66 : decode cX9_onWay 66 = .ok (.iload 5, 2) := by decide +kernel
theorem dX9_onWay_68 : decode cX9_onWay 68 = .ok (.iaload, 1) := by decide +kernel
theorem dX9_onWay_69 : decode cX9_onWay 69 = .ok (.goto 5, 3) := by decide +kernel
theorem dX9_onWay_72 : decode cX9_onWay 72 = .ok (.bipush (-2), 2) := by decide +kernel
theorem dX9_onWay_74 : decode cX9_onWay 74 = .ok (.ireturn, 1) := by decide +kernel
theorem dX9_choose_0 : decode cX9_choose 0 = .ok (.iload_n 1, 1) := by decide +kernel
theorem dX9_choose_1 : decode cX9_choose 1 = .ok (.aload_n 0, 1) := by decide +kernel
theorem dX9_choose_2 : decode cX9_choose 2 = .ok (.getfield 50, 3) := by decide +kernel
theorem dX9_choose_5 : decode cX9_choose 5 = .ok (.if_icmp .ge 9, 3) := by decide +kernel
theorem dX9_choose_8 : decode cX9_choose 8 = .ok (.iload_n 1, 1) := by decide +kernel
theorem dX9_choose_9 : decode cX9_choose 9 = .ok (.bipush 7, 2) := by decide +kernel
theorem dX9_choose_11 : decode cX9_choose 11 = .ok (.if_icmp .lt 26, 3) := by decide +kernel
theorem dX9_choose_14 : decode cX9_choose 14 = .ok (.aload_n 0, 1) := by decide +kernel
theorem dX9_choose_15 : decode cX9_choose 15 = .ok (.dup, 1) := by decide +kernel
theorem dX9_choose_16 : decode cX9_choose 16 = .ok (.getfield 53, 3) := by decide +kernel
theorem dX9_choose_19 : decode cX9_choose 19 = .ok (.iconst 1, 1) := by decide +kernel
theorem dX9_choose_20 : decode cX9_choose 20 = .ok (.isub, 1) := by decide +kernel
theorem dX9_choose_21 : decode cX9_choose 21 = .ok (.putfield 53, 3) := by decide +kernel
theorem dX9_choose_24 : decode cX9_choose 24 = .ok (.aload_n 0, 1) := by decide +kernel
theorem dX9_choose_25 : decode cX9_choose 25 = .ok (.getfield 53, 3) := by decide +kernel
theorem dX9_choose_28 : decode cX9_choose 28 = .ok (.ifCond .ge 7, 3) := by decide +kernel
theorem dX9_choose_31 : decode cX9_choose 31 = .ok (.iconst 1, 1) := by decide +kernel
theorem dX9_choose_32 : decode cX9_choose 32 = .ok (.goto 4, 3) := by decide +kernel
theorem dX9_choose_35 : decode cX9_choose 35 = .ok (.iconst 0, 1) := by decide +kernel
theorem dX9_choose_36 : decode cX9_choose 36 = .ok (.ireturn, 1) := by decide +kernel
theorem dX9_choose_37 : decode cX9_choose 37 = .ok (.aload_n 0, 1) := by decide +kernel
theorem dX9_choose_38 : decode cX9_choose 38 = .ok (.getfield 44, 3) := by decide +kernel
theorem dX9_choose_41 : decode cX9_choose 41 = .ok (.iconst 1, 1) := by decide +kernel
theorem dX9_choose_42 : decode cX9_choose 42 = .ok (.iadd, 1) := by decide +kernel
theorem dX9_choose_43 : decode cX9_choose 43 = .ok (.iload_n 1, 1) := by decide +kernel
theorem dX9_choose_44 : decode cX9_choose 44 = .ok (.iadd, 1) := by decide +kernel
theorem dX9_choose_45 : decode cX9_choose 45 = .ok (.istore_n 3, 1) := by decide +kernel
theorem dX9_choose_46 : decode cX9_choose 46 = .ok (.iload_n 3, 1) := by decide +kernel
theorem dX9_choose_47 : decode cX9_choose 47 = .ok (.aload_n 0, 1) := by decide +kernel
theorem dX9_choose_48 : decode cX9_choose 48 = .ok (.getfield 40, 3) := by decide +kernel
theorem dX9_choose_51 : decode cX9_choose 51 = .ok (.invokevirtual 22, 3) := by decide +kernel
theorem dX9_choose_54 : decode cX9_choose 54 = .ok (.if_icmp .lt 13, 3) := by decide +kernel
theorem dX9_choose_57 : decode cX9_choose 57 = .ok (.iload_n 3, 1) := by decide +kernel
theorem dX9_choose_58 : decode cX9_choose 58 = .ok (.aload_n 0, 1) := by decide +kernel
theorem dX9_choose_59 : decode cX9_choose 59 = .ok (.getfield 40, 3) := by decide +kernel
theorem dX9_choose_62 : decode cX9_choose 62 = .ok (.invokevirtual 22, 3) := by decide +kernel
theorem dX9_choose_65 : decode cX9_choose 65 = .ok (.isub, 1) := by decide +kernel
theorem dX9_choose_66 : decode cX9_choose 66 = .ok (.istore_n 3, 1) := by decide +kernel
theorem dX9_choose_67 : decode cX9_choose 67 = .ok (.iconst 0, 1) := by decide +kernel
theorem dX9_choose_68 : decode cX9_choose 68 = .ok (.istore 4, 2) := by decide +kernel
theorem dX9_choose_70 : decode cX9_choose 70 = .ok (.iload 4, 2) := by decide +kernel
theorem dX9_choose_72 : decode cX9_choose 72 = .ok (.aload_n 0, 1) := by decide +kernel
theorem dX9_choose_73 : decode cX9_choose 73 = .ok (.getfield 18, 3) := by decide +kernel
theorem dX9_choose_76 : decode cX9_choose 76 = .ok (.if_icmp .ge 54, 3) := by decide +kernel
theorem dX9_choose_79 : decode cX9_choose 79 = .ok (.iload_n 2, 1) := by decide +kernel
theorem dX9_choose_80 : decode cX9_choose 80 = .ok (.iload 4, 2) := by decide +kernel
theorem dX9_choose_82 : decode cX9_choose 82 = .ok (.ishr, 1) := by decide +kernel
theorem dX9_choose_83 : decode cX9_choose 83 = .ok (.iconst 1, 1) := by decide +kernel
theorem dX9_choose_84 : decode cX9_choose 84 = .ok (.iand, 1) := by decide +kernel
theorem dX9_choose_85 : decode cX9_choose 85 = .ok (.ifCond .ne 39, 3) := by decide +kernel
theorem dX9_choose_88 : decode cX9_choose 88 = .ok (.aload_n 0, 1) := by decide +kernel
theorem dX9_choose_89 : decode cX9_choose 89 = .ok (.iload 4, 2) := by decide +kernel
theorem dX9_choose_91 : decode cX9_choose 91 = .ok (.iload_n 3, 1) := by decide +kernel
theorem dX9_choose_92 : decode cX9_choose 92 = .ok (.invokevirtual 60, 3) := by decide +kernel
theorem dX9_choose_95 : decode cX9_choose 95 = .ok (.ifCond .eq 29, 3) := by decide +kernel
theorem dX9_choose_98 : decode cX9_choose 98 = .ok (.aload_n 0, 1) := by decide +kernel
theorem dX9_choose_99 : decode cX9_choose 99 = .ok (.getfield 15, 3) := by decide +kernel
theorem dX9_choose_102 : decode cX9_choose 102 = .ok (.iload_n 1, 1) := by decide +kernel
theorem dX9_choose_103 : decode cX9_choose 103 = .ok (.iload 4, 2) := by decide +kernel
theorem dX9_choose_105 : decode cX9_choose 105 = .ok (.iastore, 1) := by decide +kernel
theorem dX9_choose_106 : decode cX9_choose 106 = .ok (.aload_n 0, 1) := by decide +kernel
theorem dX9_choose_107 : decode cX9_choose 107 = .ok (.iload_n 1, 1) := by decide +kernel
theorem dX9_choose_108 : decode cX9_choose 108 = .ok (.iconst 1, 1) := by decide +kernel
theorem dX9_choose_109 : decode cX9_choose 109 = .ok (.iadd, 1) := by decide +kernel
theorem dX9_choose_110 : decode cX9_choose 110 = .ok (.iload_n 2, 1) := by decide +kernel
theorem dX9_choose_111 : decode cX9_choose 111 = .ok (.iconst 1, 1) := by decide +kernel
theorem dX9_choose_112 : decode cX9_choose 112 = .ok (.iload 4, 2) := by decide +kernel
theorem dX9_choose_114 : decode cX9_choose 114 = .ok (.ishl, 1) := by decide +kernel
theorem dX9_choose_115 : decode cX9_choose 115 = .ok (.ior, 1) := by decide +kernel
theorem dX9_choose_116 : decode cX9_choose 116 = .ok (.invokevirtual 56, 3) := by decide +kernel
theorem dX9_choose_119 : decode cX9_choose 119 = .ok (.ifCond .eq 5, 3) := by decide +kernel
theorem dX9_choose_122 : decode cX9_choose 122 = .ok (.iconst 1, 1) := by decide +kernel
theorem dX9_choose_123 : decode cX9_choose 123 = .ok (.ireturn, 1) := by decide +kernel
theorem dX9_choose_124 : decode cX9_choose 124 = .ok (.iinc 4 1, 3) := by decide +kernel
theorem dX9_choose_127 : decode cX9_choose 127 = .ok (.goto (-57), 3) := by decide +kernel
theorem dX9_choose_130 : decode cX9_choose 130 = .ok (.iconst 0, 1) := by decide +kernel
theorem dX9_choose_131 : decode cX9_choose 131 = .ok (.ireturn, 1) := by decide +kernel
