theorem dX0_init_0 : decode cX0_init 0 = .ok (.aload_n 0, 1) := by decide +kernel
theorem dX0_init_1 : decode cX0_init 1 = .ok (.invokespecial 3, 3) := by decide +kernel
theorem dX0_init_4 : decode cX0_init 4 = .ok (.aload_n 0, 1) := by decide +kernel
theorem dX0_init_5 : decode cX0_init 5 = .ok (.bipush 27, 2) := by decide +kernel
theorem dX0_init_7 : decode cX0_init 7 = .ok (.newarray .int, 2) := by decide +kernel
theorem dX0_init_9 : decode cX0_init 9 = .ok (.putfield 9, 3) := by decide +kernel
theorem dX0_init_12 : decode cX0_init 12 = .ok (.return_, 1) := by decide +kernel
theorem dX0_size_0 : decode cX0_size 0 = .ok (.aload_n 0, 1) := by decide +kernel
theorem dX0_size_1 : decode cX0_size 1 = .ok (.getfield 15, 3) := by decide +kernel
theorem dX0_size_4 : decode cX0_size 4 = .ok (.ireturn, 1) := by decide +kernel
theorem dX0_gather_0 : decode cX0_gather 0 = .ok (.aload_n 1, 1) := by decide +kernel
theorem dX0_gather_1 : decode cX0_gather 1 = .ok (.aload_n 1, 1) := by decide +kernel
theorem dX0_gather_2 : decode cX0_gather 2 = .ok (.iload_n 3, 1) := by decide +kernel
theorem dX0_gather_3 : decode cX0_gather 3 = .ok (.iload 4, 2) := by decide +kernel
theorem dX0_gather_5 : decode cX0_gather 5 = .ok (.invokevirtual 19, 3) := by decide +kernel
theorem dX0_gather_8 : decode cX0_gather 8 = .ok (.invokevirtual 25, 3) := by decide +kernel
theorem dX0_gather_11 : decode cX0_gather 11 = .ok (.iload_n 2, 1) := by decide +kernel
theorem dX0_gather_12 : decode cX0_gather 12 = .ok (.iand, 1) := by decide +kernel
theorem dX0_gather_13 : decode cX0_gather 13 = .ok (.istore 5, 2) := by decide +kernel
theorem dX0_gather_15 : decode cX0_gather 15 = .ok (.aload_n 0, 1) := by decide +kernel
theorem dX0_gather_16 : decode cX0_gather 16 = .ok (.iconst 0, 1) := by decide +kernel
theorem dX0_gather_17 : decode cX0_gather 17 = .ok (.putfield 15, 3) := by decide +kernel
theorem dX0_gather_20 : decode cX0_gather 20 = .ok (.aload_n 1, 1) := by decide +kernel
theorem dX0_gather_21 : decode cX0_gather 21 = .ok (.invokevirtual 29, 3) := by decide +kernel
theorem dX0_gather_24 : decode cX0_gather 24 = .ok (.iconst 1, 1) := by decide +kernel
theorem dX0_gather_25 : decode cX0_gather 25 = .ok (.isub, 1) := by decide +kernel
theorem dX0_gather_26 : decode cX0_gather 26 = .ok (.istore 6, 2) := by decide +kernel
theorem dX0_gather_28 : decode cX0_gather 28 = .ok (.iload 6, 2) := by decide +kernel
theorem dX0_gather_30 : decode cX0_gather 30 = .ok (.ifCond .le 80, 3) := by decide +kernel
theorem dX0_gather_33 : decode cX0_gather 33 = .ok (.iconst 0, 1) := by decide +kernel
theorem dX0_gather_34 : decode cX0_gather 34 = .ok (.istore 7, 2) := by decide +kernel
theorem dX0_gather_36 : decode cX0_gather 36 = .ok (.iload 7, 2) := by decide +kernel
theorem dX0_gather_38 : decode cX0_gather 38 = .ok (.aload_n 1, 1) := by decide +kernel
theorem dX0_gather_39 : decode cX0_gather 39 = .ok (.invokevirtual 33, 3) := by decide +kernel
theorem dX0_gather_42 : decode cX0_gather 42 = .ok (.if_icmp .ge 62, 3) := by decide +kernel
theorem dX0_gather_45 : decode cX0_gather 45 = .ok (.aload_n 1, 1) := by decide +kernel
theorem dX0_gather_46 : decode cX0_gather 46 = .ok (.iload 5, 2) := by decide +kernel
theorem dX0_gather_48 : decode cX0_gather 48 = .ok (.iload 7, 2) := by decide +kernel
theorem dX0_gather_50 : decode cX0_gather 50 = .ok (.invokevirtual 36, 3) := by decide +kernel
theorem dX0_gather_53 : decode cX0_gather 53 = .ok (.ifCond .eq 45, 3) := by decide +kernel
theorem dX0_gather_56 : decode cX0_gather 56 = .ok (.aload_n 1, 1) := by decide +kernel
theorem dX0_gather_57 : decode cX0_gather 57 = .ok (.iload_n 3, 1) := by decide +kernel
theorem dX0_gather_58 : decode cX0_gather 58 = .ok (.iload 7, 2) := by decide +kernel
theorem dX0_gather_60 : decode cX0_gather 60 = .ok (.invokestatic 40, 3) := by decide +kernel
theorem dX0_gather_63 : decode cX0_gather 63 = .ok (.iload 6, 2) := by decide +kernel
theorem dX0_gather_65 : decode cX0_gather 65 = .ok (.if_icmp .ne 33, 3) := by decide +kernel
theorem dX0_gather_68 : decode cX0_gather 68 = .ok (.aload_n 0, 1) := by decide +kernel
theorem dX0_gather_69 : decode cX0_gather 69 = .ok (.getfield 15, 3) := by decide +kernel
theorem dX0_gather_72 : decode cX0_gather 72 = .ok (.bipush 27, 2) := by decide +kernel
theorem dX0_gather_74 : decode cX0_gather 74 = .ok (.if_icmp .ge 24, 3) := by decide +kernel
theorem dX0_gather_77 : decode cX0_gather 77 = .ok (.aload_n 0, 1) := by decide +kernel
theorem dX0_gather_78 : decode cX0_gather 78 = .ok (.getfield 9, 3) := by decide +kernel
theorem dX0_gather_81 : decode cX0_gather 81 = .ok (.aload_n 0, 1) := by decide +kernel
theorem dX0_gather_82 : decode cX0_gather 82 = .ok (.getfield 15, 3) := by decide +kernel
theorem dX0_gather_85 : decode cX0_gather 85 = .ok (.iload 7, 2) := by decide +kernel
theorem dX0_gather_87 : decode cX0_gather 87 = .ok (.iastore, 1) := by decide +kernel
theorem dX0_gather_88 : decode cX0_gather 88 = .ok (.aload_n 0, 1) := by decide +kernel
theorem dX0_gather_89 : decode cX0_gather 89 = .ok (.dup, 1) := by decide +kernel
theorem dX0_gather_90 : decode cX0_gather 90 = .ok (.getfield 15, 3) := by decide +kernel
theorem dX0_gather_93 : decode cX0_gather 93 = .ok (.iconst 1, 1) := by decide +kernel
theorem dX0_gather_94 : decode cX0_gather 94 = .ok (.iadd, 1) := by decide +kernel
theorem dX0_gather_95 : decode cX0_gather 95 = .ok (.putfield 15, 3) := by decide +kernel
theorem dX0_gather_98 : decode cX0_gather 98 = .ok (.iinc 7 1, 3) := by decide +kernel
theorem dX0_gather_101 : decode cX0_gather 101 = .ok (.goto (-65), 3) := by decide +kernel
theorem dX0_gather_104 : decode cX0_gather 104 = .ok (.iinc 6 (-1), 3) := by decide +kernel
theorem dX0_gather_107 : decode cX0_gather 107 = .ok (.goto (-79), 3) := by decide +kernel
theorem dX0_gather_110 : decode cX0_gather 110 = .ok (.return_, 1) := by decide +kernel
theorem dX0_spanFrom_0 : decode cX0_spanFrom 0 = .ok (.aload_n 0, 1) := by decide +kernel
theorem dX0_spanFrom_1 : decode cX0_spanFrom 1 = .ok (.iload_n 1, 1) := by decide +kernel
theorem dX0_spanFrom_2 : decode cX0_spanFrom 2 = .ok (.aload_n 0, 1) := by decide +kernel
theorem dX0_spanFrom_3 : decode cX0_spanFrom 3 = .ok (.iload_n 2, 1) := by decide +kernel
theorem dX0_spanFrom_4 : decode cX0_spanFrom 4 = .ok (.invokevirtual 44, 3) := by decide +kernel
theorem dX0_spanFrom_7 : decode cX0_spanFrom 7 = .ok (.invokevirtual 47, 3) := by decide +kernel
theorem dX0_spanFrom_10 : decode cX0_spanFrom 10 = .ok (.istore_n 3, 1) := by decide +kernel
theorem dX0_spanFrom_11 : decode cX0_spanFrom 11 = .ok (.aload_n 0, 1) := by decide +kernel
theorem dX0_spanFrom_12 : decode cX0_spanFrom 12 = .ok (.iload_n 1, 1) := by decide +kernel
theorem dX0_spanFrom_13 : decode cX0_spanFrom 13 = .ok (.aload_n 0, 1) := by decide +kernel
theorem dX0_spanFrom_14 : decode cX0_spanFrom 14 = .ok (.iload_n 2, 1) := by decide +kernel
theorem dX0_spanFrom_15 : decode cX0_spanFrom 15 = .ok (.invokevirtual 50, 3) := by decide +kernel
theorem dX0_spanFrom_18 : decode cX0_spanFrom 18 = .ok (.invokevirtual 47, 3) := by decide +kernel
theorem dX0_spanFrom_21 : decode cX0_spanFrom 21 = .ok (.istore 4, 2) := by decide +kernel
theorem dX0_spanFrom_23 : decode cX0_spanFrom 23 = .ok (.iload_n 3, 1) := by decide +kernel
theorem dX0_spanFrom_24 : decode cX0_spanFrom 24 = .ok (.iload 4, 2) := by decide +kernel
theorem dX0_spanFrom_26 : decode cX0_spanFrom 26 = .ok (.isub, 1) := by decide +kernel
theorem dX0_spanFrom_27 : decode cX0_spanFrom 27 = .ok (.invokestatic 53, 3) := by decide +kernel
theorem dX0_spanFrom_30 : decode cX0_spanFrom 30 = .ok (.ireturn, 1) := by decide +kernel
theorem dX0_pairAt_0 : decode cX0_pairAt 0 = .ok (.iload_n 2, 1) := by decide +kernel
theorem dX0_pairAt_1 : decode cX0_pairAt 1 = .ok (.ifCond .lt 11, 3) := by decide +kernel
theorem dX0_pairAt_4 : decode cX0_pairAt 4 = .ok (.iload_n 2, 1) := by decide +kernel
theorem dX0_pairAt_5 : decode cX0_pairAt 5 = .ok (.aload_n 0, 1) := by decide +kernel
theorem dX0_pairAt_6 : decode cX0_pairAt 6 = .ok (.getfield 15, 3) := by decide +kernel
theorem dX0_pairAt_9 : decode cX0_pairAt 9 = .ok (.if_icmp .lt 7, 3) := by decide +kernel
theorem dX0_pairAt_12 : decode cX0_pairAt 12 = .ok (.iconst (-1), 1) := by decide +kernel
theorem dX0_pairAt_13 : decode cX0_pairAt 13 = .ok (.goto 13, 3) := by decide +kernel
theorem dX0_pairAt_16 : decode cX0_pairAt 16 = .ok (.aload_n 1, 1) := by decide +kernel
theorem dX0_pairAt_17 : decode cX0_pairAt 17 = .ok (.aload_n 0, 1) := by decide +kernel
theorem dX0_pairAt_18 : decode cX0_pairAt 18 = .ok (.getfield 9, 3) := by decide +kernel
theorem dX0_pairAt_21 : decode cX0_pairAt 21 = .ok (.iload_n 2, 1) := by decide +kernel
theorem dX0_pairAt_22 : decode cX0_pairAt 22 = .ok (.iaload, 1) := by decide +kernel
theorem dX0_pairAt_23 : decode cX0_pairAt 23 = .ok (.invokevirtual 58, 3) := by decide +kernel
theorem dX0_pairAt_26 : decode cX0_pairAt 26 = .ok (.ireturn, 1) := by decide +kernel
theorem dX0_sharedWithNext_0 : decode cX0_sharedWithNext 0 = .ok (.iload_n 2, 1) := by decide +kernel
theorem dX0_sharedWithNext_1 : decode cX0_sharedWithNext 1 = .ok (.ifCond .lt 13, 3) := by decide +kernel
theorem dX0_sharedWithNext_4 : decode cX0_sharedWithNext 4 = .ok (.iload_n 2, 1) := by decide +kernel
theorem dX0_sharedWithNext_5 : decode cX0_sharedWithNext 5 = .ok (.aload_n 0, 1) := by decide +kernel
theorem dX0_sharedWithNext_6 : decode cX0_sharedWithNext 6 = .ok (.getfield 15, 3) := by decide +kernel
theorem dX0_sharedWithNext_9 : decode cX0_sharedWithNext 9 = .ok (.iconst 1, 1) := by decide +kernel
theorem dX0_sharedWithNext_10 : decode cX0_sharedWithNext 10 = .ok (.isub, 1) := by decide +kernel
theorem dX0_sharedWithNext_11 : decode cX0_sharedWithNext 11 = .ok (.if_icmp .lt 5, 3) := by decide +kernel
theorem dX0_sharedWithNext_14 : decode cX0_sharedWithNext 14 = .ok (.iconst (-1), 1) := by decide +kernel
theorem dX0_sharedWithNext_15 : decode cX0_sharedWithNext 15 = .ok (.ireturn, 1) := by decide +kernel
theorem dX0_sharedWithNext_16 : decode cX0_sharedWithNext 16 = .ok (.aload_n 1, 1) := by decide +kernel
theorem dX0_sharedWithNext_17 : decode cX0_sharedWithNext 17 = .ok (.aload_n 0, 1) := by decide +kernel
theorem dX0_sharedWithNext_18 : decode cX0_sharedWithNext 18 = .ok (.getfield 9, 3) := by decide +kernel
theorem dX0_sharedWithNext_21 : decode cX0_sharedWithNext 21 = .ok (.iload_n 2, 1) := by decide +kernel
theorem dX0_sharedWithNext_22 : decode cX0_sharedWithNext 22 = .ok (.iaload, 1) := by decide +kernel
theorem dX0_sharedWithNext_23 : decode cX0_sharedWithNext 23 = .ok (.invokevirtual 44, 3) := by decide +kernel
theorem dX0_sharedWithNext_26 : decode cX0_sharedWithNext 26 = .ok (.istore_n 3, 1) := by decide +kernel
theorem dX0_sharedWithNext_27 : decode cX0_sharedWithNext 27 = .ok (.aload_n 1, 1) := by decide +kernel
theorem dX0_sharedWithNext_28 : decode cX0_sharedWithNext 28 = .ok (.aload_n 0, 1) := by decide +kernel
theorem dX0_sharedWithNext_29 : decode cX0_sharedWithNext 29 = .ok (.getfield 9, 3) := by decide +kernel
theorem dX0_sharedWithNext_32 : decode cX0_sharedWithNext 32 = .ok (.iload_n 2, 1) := by decide +kernel
theorem dX0_sharedWithNext_33 : decode cX0_sharedWithNext 33 = .ok (.iconst 1, 1) := by decide +kernel
theorem dX0_sharedWithNext_34 : decode cX0_sharedWithNext 34 = .ok (.iadd, 1) := by decide +kernel
theorem dX0_sharedWithNext_35 : decode cX0_sharedWithNext 35 = .ok (.iaload, 1) := by decide +kernel
theorem dX0_sharedWithNext_36 : decode cX0_sharedWithNext 36 = .ok (.invokevirtual 44, 3) := by decide +kernel
theorem dX0_sharedWithNext_39 : decode cX0_sharedWithNext 39 = .ok (.istore 4, 2) := by decide +kernel
theorem dX0_sharedWithNext_41 : decode cX0_sharedWithNext 41 = .ok (.aload_n 1, 1) := by decide +kernel
theorem dX0_sharedWithNext_42 : decode cX0_sharedWithNext 42 = .ok (.aload_n 0, 1) := by decide +kernel
theorem dX0_sharedWithNext_43 : decode cX0_sharedWithNext 43 = .ok (.getfield 9, 3) := by decide +kernel
theorem dX0_sharedWithNext_46 : decode cX0_sharedWithNext 46 = .ok (.iload_n 2, 1) := by decide +kernel
theorem dX0_sharedWithNext_47 : decode cX0_sharedWithNext 47 = .ok (.iconst 1, 1) := by decide +kernel
theorem dX0_sharedWithNext_48 : decode cX0_sharedWithNext 48 = .ok (.iadd, 1) := by decide +kernel
theorem dX0_sharedWithNext_49 : decode cX0_sharedWithNext 49 = .ok (.iaload, 1) := by decide +kernel
theorem dX0_sharedWithNext_50 : decode cX0_sharedWithNext 50 = .ok (.invokevirtual 50, 3) := by decide +kernel
theorem dX0_sharedWithNext_53 : decode cX0_sharedWithNext 53 = .ok (.istore 5, 2) := by decide +kernel
theorem dX0_sharedWithNext_55 : decode cX0_sharedWithNext 55 = .ok (.iload_n 3, 1) := by decide +kernel
theorem dX0_sharedWithNext_56 : decode cX0_sharedWithNext 56 = .ok (.iload 4, 2) := by decide +kernel
theorem dX0_sharedWithNext_58 : decode cX0_sharedWithNext 58 = .ok (.if_icmp .eq 9, 3) := by decide +kernel
theorem dX0_sharedWithNext_61 : decode cX0_sharedWithNext 61 = .ok (.iload_n 3, 1) := by decide +kernel
theorem dX0_sharedWithNext_62 : decode cX0_sharedWithNext 62 = .ok (.iload 5, 2) := by decide +kernel
theorem dX0_sharedWithNext_64 : decode cX0_sharedWithNext 64 = .ok (.if_icmp .ne 7, 3) := by decide +kernel
theorem dX0_sharedWithNext_67 : decode cX0_sharedWithNext 67 = .ok (.iload_n 3, 1) := by decide +kernel
theorem dX0_sharedWithNext_68 : decode cX0_sharedWithNext 68 = .ok (.goto 13, 3) := by decide +kernel
theorem dX0_sharedWithNext_71 : decode cX0_sharedWithNext 71 = .ok (.aload_n 1, 1) := by decide +kernel
theorem dX0_sharedWithNext_72 : decode cX0_sharedWithNext 72 = .ok (.aload_n 0, 1) := by decide +kernel
theorem dX0_sharedWithNext_73 : decode cX0_sharedWithNext 73 = .ok (.getfield 9, 3) := by decide +kernel
theorem dX0_sharedWithNext_76 : decode cX0_sharedWithNext 76 = .ok (.iload_n 2, 1) := by decide +kernel
theorem dX0_sharedWithNext_77 : decode cX0_sharedWithNext 77 = .ok (.iaload, 1) := by decide +kernel
theorem dX0_sharedWithNext_78 : decode cX0_sharedWithNext 78 = .ok (.invokevirtual 50, 3) := by decide +kernel
theorem dX0_sharedWithNext_81 : decode cX0_sharedWithNext 81 = .ok (.ireturn, 1) := by decide +kernel
