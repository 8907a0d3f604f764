theorem dX3_init_0 : decode cX3_init 0 = .ok (.aload_n 0, 1) := by decide +kernel
theorem dX3_init_1 : decode cX3_init 1 = .ok (.invokespecial 3, 3) := by decide +kernel
theorem dX3_init_4 : decode cX3_init 4 = .ok (.aload_n 0, 1) := by decide +kernel
theorem dX3_init_5 : decode cX3_init 5 = .ok (.sipush 429, 3) := by decide +kernel
theorem dX3_init_8 : decode cX3_init 8 = .ok (.newarray .int, 2) := by decide +kernel
theorem dX3_init_10 : decode cX3_init 10 = .ok (.putfield 9, 3) := by decide +kernel
theorem dX3_init_13 : decode cX3_init 13 = .ok (.aload_n 0, 1) := by decide +kernel
theorem dX3_init_14 : decode cX3_init 14 = .ok (.bipush 22, 2) := by decide +kernel
theorem dX3_init_16 : decode cX3_init 16 = .ok (.newarray .int, 2) := by decide +kernel
theorem dX3_init_18 : decode cX3_init 18 = .ok (.putfield 15, 3) := by decide +kernel
theorem dX3_init_21 : decode cX3_init 21 = .ok (.return_, 1) := by decide +kernel
theorem dX3_size_0 : decode cX3_size 0 = .ok (.aload_n 0, 1) := by decide +kernel
theorem dX3_size_1 : decode cX3_size 1 = .ok (.getfield 18, 3) := by decide +kernel
theorem dX3_size_4 : decode cX3_size 4 = .ok (.ireturn, 1) := by decide +kernel
theorem dX3_gather_0 : decode cX3_gather 0 = .ok (.aload_n 2, 1) := by decide +kernel
theorem dX3_gather_1 : decode cX3_gather 1 = .ok (.iload_n 3, 1) := by decide +kernel
theorem dX3_gather_2 : decode cX3_gather 2 = .ok (.invokevirtual 22, 3) := by decide +kernel
theorem dX3_gather_5 : decode cX3_gather 5 = .ok (.aload_n 0, 1) := by decide +kernel
theorem dX3_gather_6 : decode cX3_gather 6 = .ok (.iconst 0, 1) := by decide +kernel
theorem dX3_gather_7 : decode cX3_gather 7 = .ok (.putfield 18, 3) := by decide +kernel
theorem dX3_gather_10 : decode cX3_gather 10 = .ok (.iconst 0, 1) := by decide +kernel
theorem dX3_gather_11 : decode cX3_gather 11 = .ok (.istore 4, 2) := by decide +kernel
theorem dX3_gather_13 : decode cX3_gather 13 = .ok (.iload 4, 2) := by decide +kernel
theorem dX3_gather_15 : decode cX3_gather 15 = .ok (.aload_n 1, 1) := by decide +kernel
theorem dX3_gather_16 : decode cX3_gather 16 = .ok (.invokevirtual 28, 3) := by decide +kernel
theorem dX3_gather_19 : decode cX3_gather 19 = .ok (.if_icmp .ge 52, 3) := by decide +kernel
theorem dX3_gather_22 : decode cX3_gather 22 = .ok (.iload 4, 2) := by decide +kernel
theorem dX3_gather_24 : decode cX3_gather 24 = .ok (.sipush 429, 3) := by decide +kernel
theorem dX3_gather_27 : decode cX3_gather 27 = .ok (.if_icmp .ge 44, 3) := by decide +kernel
theorem dX3_gather_30 : decode cX3_gather 30 = .ok (.aload_n 2, 1) := by decide +kernel
theorem dX3_gather_31 : decode cX3_gather 31 = .ok (.aload_n 1, 1) := by decide +kernel
theorem dX3_gather_32 : decode cX3_gather 32 = .ok (.aload_n 1, 1) := by decide +kernel
theorem dX3_gather_33 : decode cX3_gather 33 = .ok (.iload 4, 2) := by decide +kernel
theorem dX3_gather_35 : decode cX3_gather 35 = .ok (.invokevirtual 34, 3) := by decide +kernel
theorem dX3_gather_38 : decode cX3_gather 38 = .ok (.invokevirtual 38, 3) := by decide +kernel
theorem dX3_gather_41 : decode cX3_gather 41 = .ok (.ifCond .eq 24, 3) := by decide +kernel
theorem dX3_gather_44 : decode cX3_gather 44 = .ok (.aload_n 0, 1) := by decide +kernel
theorem dX3_gather_45 : decode cX3_gather 45 = .ok (.getfield 9, 3) := by decide +kernel
theorem dX3_gather_48 : decode cX3_gather 48 = .ok (.aload_n 0, 1) := by decide +kernel
theorem dX3_gather_49 : decode cX3_gather 49 = .ok (.getfield 18, 3) := by decide +kernel
theorem dX3_gather_52 : decode cX3_gather 52 = .ok (.iload 4, 2) := by decide +kernel
theorem dX3_gather_54 : decode cX3_gather 54 = .ok (.iastore, 1) := by decide +kernel
theorem dX3_gather_55 : decode cX3_gather 55 = .ok (.aload_n 0, 1) := by decide +kernel
theorem dX3_gather_56 : decode cX3_gather 56 = .ok (.dup, 1) := by decide +kernel
theorem dX3_gather_57 : decode cX3_gather 57 = .ok (.getfield 18, 3) := by decide +kernel
theorem dX3_gather_60 : decode cX3_gather 60 = .ok (.iconst 1, 1) := by decide +kernel
theorem dX3_gather_61 : decode cX3_gather 61 = .ok (.iadd, 1) := by decide +kernel
theorem dX3_gather_62 : decode cX3_gather 62 = .ok (.putfield 18, 3) := by decide +kernel
theorem dX3_gather_65 : decode cX3_gather 65 = .ok (.iinc 4 1, 3) := by decide +kernel
theorem dX3_gather_68 : decode cX3_gather 68 = .ok (.goto (-55), 3) := by decide +kernel
theorem dX3_gather_71 : decode cX3_gather 71 = .ok (.return_, 1) := by decide +kernel
theorem dX3_leastNumber_0 : decode cX3_leastNumber 0 = .ok (.aload_n 0, 1) := by decide +kernel
theorem dX3_leastNumber_1 : decode cX3_leastNumber 1 = .ok (.getfield 18, 3) := by decide +kernel
theorem dX3_leastNumber_4 : decode cX3_leastNumber 4 = .ok (.ifCond .le 12, 3) := by decide +kernel
theorem dX3_leastNumber_7 : decode cX3_leastNumber 7 = .ok (.aload_n 0, 1) := by decide +kernel
theorem dX3_leastNumber_8 : decode cX3_leastNumber 8 = .ok (.getfield 9, 3) := by decide +kernel
theorem dX3_leastNumber_11 : decode cX3_leastNumber 11 = .ok (.iconst 0, 1) := by decide +kernel
theorem dX3_leastNumber_12 : decode cX3_leastNumber 12 = .ok (.iaload, 1) := by decide +kernel
theorem dX3_leastNumber_13 : decode cX3_leastNumber 13 = .ok (.goto 4, 3) := by decide +kernel
theorem dX3_leastNumber_16 : decode cX3_leastNumber 16 = .ok (.iconst (-1), 1) := by decide +kernel
theorem dX3_leastNumber_17 : decode cX3_leastNumber 17 = .ok (.ireturn, 1) := by decide +kernel
theorem dX3_howSure_0 : decode cX3_howSure 0 = .ok (.iconst 0, 1) := by decide +kernel
theorem dX3_howSure_1 : decode cX3_howSure 1 = .ok (.istore_n 3, 1) := by decide +kernel
theorem dX3_howSure_2 : decode cX3_howSure 2 = .ok (.iconst 0, 1) := by decide +kernel
theorem dX3_howSure_3 : decode cX3_howSure 3 = .ok (.istore 4, 2) := by decide +kernel
theorem dX3_howSure_5 : decode cX3_howSure 5 = .ok (.iload 4, 2) := by decide +kernel
theorem dX3_howSure_7 : decode cX3_howSure 7 = .ok (.aload_n 0, 1) := by decide +kernel
theorem dX3_howSure_8 : decode cX3_howSure 8 = .ok (.getfield 18, 3) := by decide +kernel
theorem dX3_howSure_11 : decode cX3_howSure 11 = .ok (.if_icmp .ge 31, 3) := by decide +kernel
theorem dX3_howSure_14 : decode cX3_howSure 14 = .ok (.aload_n 1, 1) := by decide +kernel
theorem dX3_howSure_15 : decode cX3_howSure 15 = .ok (.aload_n 1, 1) := by decide +kernel
theorem dX3_howSure_16 : decode cX3_howSure 16 = .ok (.aload_n 0, 1) := by decide +kernel
theorem dX3_howSure_17 : decode cX3_howSure 17 = .ok (.getfield 9, 3) := by decide +kernel
theorem dX3_howSure_20 : decode cX3_howSure 20 = .ok (.iload 4, 2) := by decide +kernel
theorem dX3_howSure_22 : decode cX3_howSure 22 = .ok (.iaload, 1) := by decide +kernel
theorem dX3_howSure_23 : decode cX3_howSure 23 = .ok (.invokevirtual 34, 3) := by decide +kernel
theorem dX3_howSure_26 : decode cX3_howSure 26 = .ok (.iload_n 2, 1) := by decide +kernel
theorem dX3_howSure_27 : decode cX3_howSure 27 = .ok (.invokevirtual 42, 3) := by decide +kernel
theorem dX3_howSure_30 : decode cX3_howSure 30 = .ok (.ifCond .eq 6, 3) := by decide +kernel
theorem dX3_howSure_33 : decode cX3_howSure 33 = .ok (.iinc 3 1, 3) := by decide +kernel
theorem dX3_howSure_36 : decode cX3_howSure 36 = .ok (.iinc 4 1, 3) := by decide +kernel
theorem dX3_howSure_39 : decode cX3_howSure 39 = .ok (.goto (-34), 3) := by decide +kernel
theorem dX3_howSure_42 : decode cX3_howSure 42 = .ok (.aload_n 0, 1) := by decide +kernel
theorem dX3_howSure_43 : decode cX3_howSure 43 = .ok (.getfield 18, 3) := by decide +kernel
theorem dX3_howSure_46 : decode cX3_howSure 46 = .ok (.ifCond .ne 5, 3) := by decide +kernel
theorem dX3_howSure_49 : decode cX3_howSure 49 = .ok (.iconst (-1), 1) := by decide +kernel
theorem dX3_howSure_50 : decode cX3_howSure 50 = .ok (.ireturn, 1) := by decide +kernel
theorem dX3_howSure_51 : decode cX3_howSure 51 = .ok (.iload_n 3, 1) := by decide +kernel
theorem dX3_howSure_52 : decode cX3_howSure 52 = .ok (.aload_n 0, 1) := by decide +kernel
theorem dX3_howSure_53 : decode cX3_howSure 53 = .ok (.getfield 18, 3) := by decide +kernel
theorem dX3_howSure_56 : decode cX3_howSure 56 = .ok (.if_icmp .ne 7, 3) := by decide +kernel
theorem dX3_howSure_59 : decode cX3_howSure 59 = .ok (.iconst 1, 1) := by decide +kernel
theorem dX3_howSure_60 : decode cX3_howSure 60 = .ok (.goto 12, 3) := by decide +kernel
theorem dX3_howSure_63 : decode cX3_howSure 63 = .ok (.iload_n 3, 1) := by decide +kernel
theorem dX3_howSure_64 : decode cX3_howSure 64 = .ok (.ifCond .ne 7, 3) := by decide +kernel
theorem dX3_howSure_67 : decode cX3_howSure 67 = .ok (.iconst 0, 1) := by decide +kernel
theorem dX3_howSure_68 : decode cX3_howSure 68 = .ok (.goto 4, 3) := by decide +kernel
theorem dX3_howSure_71 : decode cX3_howSure 71 = .ok (.iconst 2, 1) := by decide +kernel
theorem dX3_howSure_72 : decode cX3_howSure 72 = .ok (.ireturn, 1) := by decide +kernel
theorem dX3_bestQuestion_0 : decode cX3_bestQuestion 0 = .ok (.iconst (-1), 1) := by decide +kernel
theorem dX3_bestQuestion_1 : decode cX3_bestQuestion 1 = .ok (.istore_n 2, 1) := by decide +kernel
theorem dX3_bestQuestion_2 : decode cX3_bestQuestion 2 = .ok (.aload_n 0, 1) := by decide +kernel
theorem dX3_bestQuestion_3 : decode cX3_bestQuestion 3 = .ok (.getfield 18, 3) := by decide +kernel
theorem dX3_bestQuestion_6 : decode cX3_bestQuestion 6 = .ok (.istore_n 3, 1) := by decide +kernel
theorem dX3_bestQuestion_7 : decode cX3_bestQuestion 7 = .ok (.iconst 0, 1) := by decide +kernel
theorem dX3_bestQuestion_8 : decode cX3_bestQuestion 8 = .ok (.istore 4, 2) := by decide +kernel
theorem dX3_bestQuestion_10 : decode cX3_bestQuestion 10 = .ok (.iload 4, 2) := by decide +kernel
theorem dX3_bestQuestion_12 : decode cX3_bestQuestion 12 = .ok (.aload_n 1, 1) := by decide +kernel
theorem dX3_bestQuestion_13 : decode cX3_bestQuestion 13 = .ok (.invokevirtual 46, 3) := by decide +kernel
theorem dX3_bestQuestion_16 : decode cX3_bestQuestion 16 = .ok (.if_icmp .ge 44, 3) := by decide +kernel
theorem dX3_bestQuestion_19 : decode cX3_bestQuestion 19 = .ok (.aload_n 0, 1) := by decide +kernel
theorem dX3_bestQuestion_20 : decode cX3_bestQuestion 20 = .ok (.aload_n 1, 1) := by decide +kernel
theorem dX3_bestQuestion_21 : decode cX3_bestQuestion 21 = .ok (.aload_n 1, 1) := by decide +kernel
theorem dX3_bestQuestion_22 : decode cX3_bestQuestion 22 = .ok (.iload 4, 2) := by decide +kernel
theorem dX3_bestQuestion_24 : decode cX3_bestQuestion 24 = .ok (.invokevirtual 49, 3) := by decide +kernel
theorem dX3_bestQuestion_27 : decode cX3_bestQuestion 27 = .ok (.aload_n 1, 1) := by decide +kernel
theorem dX3_bestQuestion_28 : decode cX3_bestQuestion 28 = .ok (.iload 4, 2) := by decide +kernel
theorem dX3_bestQuestion_30 : decode cX3_bestQuestion 30 = .ok (.invokevirtual 52, 3) := by decide +kernel
theorem dX3_bestQuestion_33 : decode cX3_bestQuestion 33 = .ok (.invokevirtual 55, 3) := by decide +kernel
theorem dX3_bestQuestion_36 : decode cX3_bestQuestion 36 = .ok (.istore 5, 2) := by decide +kernel
theorem dX3_bestQuestion_38 : decode cX3_bestQuestion 38 = .ok (.iload 5, 2) := by decide +kernel
theorem dX3_bestQuestion_40 : decode cX3_bestQuestion 40 = .ok (.iload_n 3, 1) := by decide +kernel
theorem dX3_bestQuestion_41 : decode cX3_bestQuestion 41 = .ok (.if_icmp .ge 13, 3) := by decide +kernel
theorem dX3_bestQuestion_44 : decode cX3_bestQuestion 44 = .ok (.iload 5, 2) := by decide +kernel
theorem dX3_bestQuestion_46 : decode cX3_bestQuestion 46 = .ok (.istore_n 3, 1) := by decide +kernel
theorem dX3_bestQuestion_47 : decode cX3_bestQuestion 47 = .ok (.aload_n 1, 1) := by decide +kernel
theorem dX3_bestQuestion_48 : decode cX3_bestQuestion 48 = .ok (.iload 4, 2) := by decide +kernel
theorem dX3_bestQuestion_50 : decode cX3_bestQuestion 50 = .ok (.invokevirtual 59, 3) := by decide +kernel
theorem dX3_bestQuestion_53 : decode cX3_bestQuestion 53 = .ok (.istore_n 2, 1) := by decide +kernel
theorem dX3_bestQuestion_54 : decode cX3_bestQuestion 54 = .ok (.iinc 4 1, 3) := by decide +kernel
theorem dX3_bestQuestion_57 : decode cX3_bestQuestion 57 = .ok (.goto (-47), 3) := by decide +kernel
theorem dX3_bestQuestion_60 : decode cX3_bestQuestion 60 = .ok (.iload_n 2, 1) := by decide +kernel
theorem dX3_bestQuestion_61 : decode cX3_bestQuestion 61 = .ok (.ireturn, 1) := by decide +kernel
theorem dX3_mostAgreeing_0 : decode cX3_mostAgreeing 0 = .ok (.iconst 0, 1) := by decide +kernel
theorem dX3_mostAgreeing_1 : decode cX3_mostAgreeing 1 = .ok (.istore 4, 2) := by decide +kernel
theorem dX3_mostAgreeing_3 : decode cX3_mostAgreeing 3 = .ok (.iload 4, 2) := by decide +kernel
theorem dX3_mostAgreeing_5 : decode cX3_mostAgreeing 5 = .ok (.bipush 21, 2) := by decide +kernel
theorem dX3_mostAgreeing_7 : decode cX3_mostAgreeing 7 = .ok (.if_icmp .gt 17, 3) := by decide +kernel
theorem dX3_mostAgreeing_10 : decode cX3_mostAgreeing 10 = .ok (.aload_n 0, 1) := by decide +kernel
theorem dX3_mostAgreeing_11 : decode cX3_mostAgreeing 11 = .ok (.getfield 15, 3) := by decide +kernel
theorem dX3_mostAgreeing_14 : decode cX3_mostAgreeing 14 = .ok (.iload 4, 2) := by decide +kernel
theorem dX3_mostAgreeing_16 : decode cX3_mostAgreeing 16 = .ok (.iconst 0, 1) := by decide +kernel
theorem dX3_mostAgreeing_17 : decode cX3_mostAgreeing 17 = .ok (.iastore, 1) := by decide +kernel
theorem dX3_mostAgreeing_18 : decode cX3_mostAgreeing 18 = .ok (.iinc 4 1, 3) := by decide +kernel
theorem dX3_mostAgreeing_21 : decode cX3_mostAgreeing 21 = .ok (.goto (-18), 3) := by decide +kernel
theorem dX3_mostAgreeing_24 : decode cX3_mostAgreeing 24 = .ok (.iconst 0, 1) := by decide +kernel
theorem dX3_mostAgreeing_25 : decode cX3_mostAgreeing 25 = .ok (.istore 4, 2) := by decide +kernel
theorem dX3_mostAgreeing_27 : decode cX3_mostAgreeing 27 = .ok (.iconst 0, 1) := by decide +kernel
theorem dX3_mostAgreeing_28 : decode cX3_mostAgreeing 28 = .ok (.istore 5, 2) := by decide +kernel
theorem dX3_mostAgreeing_30 : decode cX3_mostAgreeing 30 = .ok (.iload 5, 2) := by decide +kernel
theorem dX3_mostAgreeing_32 : decode cX3_mostAgreeing 32 = .ok (.aload_n 0, 1) := by decide +kernel
theorem dX3_mostAgreeing_33 : decode cX3_mostAgreeing 33 = .ok (.getfield 18, 3) := by decide +kernel
theorem dX3_mostAgreeing_36 : decode cX3_mostAgreeing 36 = .ok (.if_icmp .ge 65, 3) := by decide +kernel
theorem dX3_mostAgreeing_39 : decode cX3_mostAgreeing 39 = .ok (.aload_n 1, 1) := by decide +kernel
theorem dX3_mostAgreeing_40 : decode cX3_mostAgreeing 40 = .ok (.aload_n 1, 1) := by decide +kernel
theorem dX3_mostAgreeing_41 : decode cX3_mostAgreeing 41 = .ok (.aload_n 0, 1) := by decide +kernel
theorem dX3_mostAgreeing_42 : decode cX3_mostAgreeing 42 = .ok (.getfield 9, 3) := by decide +kernel
theorem dX3_mostAgreeing_45 : decode cX3_mostAgreeing 45 = .ok (.iload 5, 2) := by decide +kernel
theorem dX3_mostAgreeing_47 : decode cX3_mostAgreeing 47 = .ok (.iaload, 1) := by decide +kernel
theorem dX3_mostAgreeing_48 : decode cX3_mostAgreeing 48 = .ok (.invokevirtual 34, 3) := by decide +kernel
theorem dX3_mostAgreeing_51 : decode cX3_mostAgreeing 51 = .ok (.iload_n 2, 1) := by decide +kernel
theorem dX3_mostAgreeing_52 : decode cX3_mostAgreeing 52 = .ok (.iload_n 3, 1) := by decide +kernel
theorem dX3_mostAgreeing_53 : decode cX3_mostAgreeing 53 = .ok (.invokevirtual 62, 3) := by decide +kernel
theorem dX3_mostAgreeing_56 : decode cX3_mostAgreeing 56 = .ok (.istore 6, 2) := by decide +kernel
theorem dX3_mostAgreeing_58 : decode cX3_mostAgreeing 58 = .ok (.iload 6, 2) := by decide +kernel
theorem dX3_mostAgreeing_60 : decode cX3_mostAgreeing 60 = .ok (.ifCond .lt 35, 3) := by decide +kernel
theorem dX3_mostAgreeing_63 : decode cX3_mostAgreeing 63 = .ok (.iload 6, 2) := by decide +kernel
theorem dX3_mostAgreeing_65 : decode cX3_mostAgreeing 65 = .ok (.bipush 21, 2) := by decide +kernel
theorem dX3_mostAgreeing_67 : decode cX3_mostAgreeing 67 = .ok (.if_icmp .gt 28, 3) := by decide +kernel
theorem dX3_mostAgreeing_70 : decode cX3_mostAgreeing 70 = .ok (.aload_n 0, 1) := by decide +kernel
theorem dX3_mostAgreeing_71 : decode cX3_mostAgreeing 71 = .ok (.getfield 15, 3) := by decide +kernel
theorem dX3_mostAgreeing_74 : decode cX3_mostAgreeing 74 = .ok (.iload 6, 2) := by decide +kernel
theorem dX3_mostAgreeing_76 : decode cX3_mostAgreeing 76 = .ok (.dup2, 1) := by decide +kernel
theorem dX3_mostAgreeing_77 : decode cX3_mostAgreeing 77 = .ok (.iaload, 1) := by decide +kernel
theorem dX3_mostAgreeing_78 : decode cX3_mostAgreeing 78 = .ok (.iconst 1, 1) := by decide +kernel
theorem dX3_mostAgreeing_79 : decode cX3_mostAgreeing 79 = .ok (.iadd, 1) := by decide +kernel
theorem dX3_mostAgreeing_80 : decode cX3_mostAgreeing 80 = .ok (.iastore, 1) := by decide +kernel
theorem dX3_mostAgreeing_81 : decode cX3_mostAgreeing 81 = .ok (.iload 4, 2) := by decide +kernel
theorem dX3_mostAgreeing_83 : decode cX3_mostAgreeing 83 = .ok (.aload_n 0, 1) := by decide +kernel
theorem dX3_mostAgreeing_84 : decode cX3_mostAgreeing 84 = .ok (.getfield 15, 3) := by decide +kernel
theorem dX3_mostAgreeing_87 : decode cX3_mostAgreeing 87 = .ok (.iload 6, 2) := by decide +kernel
theorem dX3_mostAgreeing_89 : decode cX3_mostAgreeing 89 = .ok (.iaload, 1) := by decide +kernel
theorem dX3_mostAgreeing_90 : decode cX3_mostAgreeing 90 = .ok (.invokestatic 66, 3) := by decide +kernel
theorem dX3_mostAgreeing_93 : decode cX3_mostAgreeing 93 = .ok (.istore 4, 2) := by decide +kernel
theorem dX3_mostAgreeing_95 : decode cX3_mostAgreeing 95 = .ok (.iinc 5 1, 3) := by decide +kernel
theorem dX3_mostAgreeing_98 : decode cX3_mostAgreeing 98 = .ok (.goto (-68), 3) := by decide +kernel
theorem dX3_mostAgreeing_101 : decode cX3_mostAgreeing 101 = .ok (.iload 4, 2) := by decide +kernel
theorem dX3_mostAgreeing_103 : decode cX3_mostAgreeing 103 = .ok (.ireturn, 1) := by decide +kernel
