theorem dX5_init_0 : decode cX5_init 0 = .ok (.aload_n 0, 1) := by decide +kernel
theorem dX5_init_1 : decode cX5_init 1 = .ok (.invokespecial 3, 3) := by decide +kernel
theorem dX5_init_4 : decode cX5_init 4 = .ok (.aload_n 0, 1) := by decide +kernel
theorem dX5_init_5 : decode cX5_init 5 = .ok (.bipush 27, 2) := by decide +kernel
theorem dX5_init_7 : decode cX5_init 7 = .ok (.newarray .int, 2) := by decide +kernel
theorem dX5_init_9 : decode cX5_init 9 = .ok (.putfield 9, 3) := by decide +kernel
theorem dX5_init_12 : decode cX5_init 12 = .ok (.aload_n 0, 1) := by decide +kernel
theorem dX5_init_13 : decode cX5_init 13 = .ok (.bipush 27, 2) := by decide +kernel
theorem dX5_init_15 : decode cX5_init 15 = .ok (.newarray .int, 2) := by decide +kernel
theorem dX5_init_17 : decode cX5_init 17 = .ok (.putfield 15, 3) := by decide +kernel
theorem dX5_init_20 : decode cX5_init 20 = .ok (.aload_n 0, 1) := by decide +kernel
theorem dX5_init_21 : decode cX5_init 21 = .ok (.bipush 81, 2) := by decide +kernel
theorem dX5_init_23 : decode cX5_init 23 = .ok (.newarray .int, 2) := by decide +kernel
theorem dX5_init_25 : decode cX5_init 25 = .ok (.putfield 18, 3) := by decide +kernel
theorem dX5_init_28 : decode cX5_init 28 = .ok (.aload_n 0, 1) := by decide +kernel
theorem dX5_init_29 : decode cX5_init 29 = .ok (.bipush 27, 2) := by decide +kernel
theorem dX5_init_31 : decode cX5_init 31 = .ok (.newarray .int, 2) := by decide +kernel
theorem dX5_init_33 : decode cX5_init 33 = .ok (.putfield 21, 3) := by decide +kernel
theorem dX5_init_36 : decode cX5_init 36 = .ok (.aload_n 0, 1) := by decide +kernel
theorem dX5_init_37 : decode cX5_init 37 = .ok (.bipush 9, 2) := by decide +kernel
theorem dX5_init_39 : decode cX5_init 39 = .ok (.newarray .int, 2) := by decide +kernel
theorem dX5_init_41 : decode cX5_init 41 = .ok (.putfield 24, 3) := by decide +kernel
theorem dX5_init_44 : decode cX5_init 44 = .ok (.aload_n 0, 1) := by decide +kernel
theorem dX5_init_45 : decode cX5_init 45 = .ok (.sipush 429, 3) := by decide +kernel
theorem dX5_init_48 : decode cX5_init 48 = .ok (.newarray .int, 2) := by decide +kernel
theorem dX5_init_50 : decode cX5_init 50 = .ok (.putfield 27, 3) := by decide +kernel
theorem dX5_init_53 : decode cX5_init 53 = .ok (.aload_n 0, 1) := by decide +kernel
theorem dX5_init_54 : decode cX5_init 54 = .ok (.iload_n 1, 1) := by decide +kernel
theorem dX5_init_55 : decode cX5_init 55 = .ok (.putfield 30, 3) := by decide +kernel
theorem dX5_init_58 : decode cX5_init 58 = .ok (.aload_n 0, 1) := by decide +kernel
theorem dX5_init_59 : decode cX5_init 59 = .ok (.invokevirtual 34, 3) := by decide +kernel
theorem dX5_init_62 : decode cX5_init 62 = .ok (.aload_n 0, 1) := by decide +kernel
theorem dX5_init_63 : decode cX5_init 63 = .ok (.invokevirtual 37, 3) := by decide +kernel
theorem dX5_init_66 : decode cX5_init 66 = .ok (.aload_n 0, 1) := by decide +kernel
theorem dX5_init_67 : decode cX5_init 67 = .ok (.aload_n 0, 1) := by decide +kernel
theorem dX5_init_68 : decode cX5_init 68 = .ok (.getfield 40, 3) := by decide +kernel
theorem dX5_init_71 : decode cX5_init 71 = .ok (.iconst 1, 1) := by decide +kernel
theorem dX5_init_72 : decode cX5_init 72 = .ok (.isub, 1) := by decide +kernel
theorem dX5_init_73 : decode cX5_init 73 = .ok (.iconst 0, 1) := by decide +kernel
theorem dX5_init_74 : decode cX5_init 74 = .ok (.iconst 1, 1) := by decide +kernel
theorem dX5_init_75 : decode cX5_init 75 = .ok (.aload_n 0, 1) := by decide +kernel
theorem dX5_init_76 : decode cX5_init 76 = .ok (.getfield 40, 3) := by decide +kernel
theorem dX5_init_79 : decode cX5_init 79 = .ok (.ishl, 1) := by decide +kernel
theorem dX5_init_80 : decode cX5_init 80 = .ok (.iconst 1, 1) := by decide +kernel
theorem dX5_init_81 : decode cX5_init 81 = .ok (.isub, 1) := by decide +kernel
theorem dX5_init_82 : decode cX5_init 82 = .ok (.iload_n 1, 1) := by decide +kernel
theorem dX5_init_83 : decode cX5_init 83 = .ok (.iconst 3, 1) := by decide +kernel
theorem dX5_init_84 : decode cX5_init 84 = .ok (.isub, 1) := by decide +kernel
theorem dX5_init_85 : decode cX5_init 85 = .ok (.invokevirtual 43, 3) := by decide +kernel
theorem dX5_init_88 : decode cX5_init 88 = .ok (.return_, 1) := by decide +kernel
theorem dX5_numberLines_0 : decode cX5_numberLines 0 = .ok (.iconst 0, 1) := by decide +kernel
theorem dX5_numberLines_1 : decode cX5_numberLines 1 = .ok (.istore_n 1, 1) := by decide +kernel
theorem dX5_numberLines_2 : decode cX5_numberLines 2 = .ok (.iload_n 1, 1) := by decide +kernel
theorem dX5_numberLines_3 : decode cX5_numberLines 3 = .ok (.aload_n 0, 1) := by decide +kernel
theorem dX5_numberLines_4 : decode cX5_numberLines 4 = .ok (.getfield 30, 3) := by decide +kernel
theorem dX5_numberLines_7 : decode cX5_numberLines 7 = .ok (.if_icmp .ge 37, 3) := by decide +kernel
theorem dX5_numberLines_10 : decode cX5_numberLines 10 = .ok (.iconst 0, 1) := by decide +kernel
theorem dX5_numberLines_11 : decode cX5_numberLines 11 = .ok (.istore_n 2, 1) := by decide +kernel
theorem dX5_numberLines_12 : decode cX5_numberLines 12 = .ok (.iload_n 2, 1) := by decide +kernel
theorem dX5_numberLines_13 : decode cX5_numberLines 13 = .ok (.aload_n 0, 1) := by decide +kernel
theorem dX5_numberLines_14 : decode cX5_numberLines 14 = .ok (.getfield 30, 3) := by decide +kernel
theorem dX5_numberLines_17 : decode cX5_numberLines 17 = .ok (.if_icmp .ge 21, 3) := by decide +kernel
theorem dX5_numberLines_20 : decode cX5_numberLines 20 = .ok (.aload_n 0, 1) := by decide +kernel
theorem dX5_numberLines_21 : decode cX5_numberLines 21 = .ok (.getfield 18, 3) := by decide +kernel
theorem dX5_numberLines_24 : decode cX5_numberLines 24 = .ok (.iload_n 1, 1) := by decide +kernel
theorem dX5_numberLines_25 : decode cX5_numberLines 25 = .ok (.bipush 9, 2) := by decide +kernel
theorem dX5_numberLines_27 : decode cX5_numberLines 27 = .ok (.imul, 1) := by decide +kernel
theorem dX5_numberLines_28 : decode cX5_numberLines 28 = .ok (.iload_n 2, 1) := by decide +kernel
theorem dX5_numberLines_29 : decode cX5_numberLines 29 = .ok (.iadd, 1) := by decide +kernel
theorem dX5_numberLines_30 : decode cX5_numberLines 30 = .ok (.iconst (-1), 1) := by decide +kernel
theorem dX5_numberLines_31 : decode cX5_numberLines 31 = .ok (.iastore, 1) := by decide +kernel
theorem dX5_numberLines_32 : decode cX5_numberLines 32 = .ok (.iinc 2 1, 3) := by decide +kernel
theorem dX5_numberLines_35 : decode cX5_numberLines 35 = .ok (.goto (-23), 3) := by decide +kernel
theorem dX5_numberLines_38 : decode cX5_numberLines 38 = .ok (.iinc 1 1, 3) := by decide +kernel
theorem dX5_numberLines_41 : decode cX5_numberLines 41 = .ok (.goto (-39), 3) := by decide +kernel
theorem dX5_numberLines_44 : decode cX5_numberLines 44 = .ok (.iconst 0, 1) := by decide +kernel
theorem dX5_numberLines_45 : decode cX5_numberLines 45 = .ok (.istore_n 1, 1) := by decide +kernel
theorem dX5_numberLines_46 : decode cX5_numberLines 46 = .ok (.iload_n 1, 1) := by decide +kernel
theorem dX5_numberLines_47 : decode cX5_numberLines 47 = .ok (.aload_n 0, 1) := by decide +kernel
theorem dX5_numberLines_48 : decode cX5_numberLines 48 = .ok (.getfield 30, 3) := by decide +kernel
theorem dX5_numberLines_51 : decode cX5_numberLines 51 = .ok (.if_icmp .ge 48, 3) := by decide +kernel
theorem dX5_numberLines_54 : decode cX5_numberLines 54 = .ok (.iload_n 1, 1) := by decide +kernel
theorem dX5_numberLines_55 : decode cX5_numberLines 55 = .ok (.ifCond .ne 12, 3) := by decide +kernel
theorem dX5_numberLines_58 : decode cX5_numberLines 58 = .ok (.aload_n 0, 1) := by decide +kernel
theorem dX5_numberLines_59 : decode cX5_numberLines 59 = .ok (.getfield 30, 3) := by decide +kernel
theorem dX5_numberLines_62 : decode cX5_numberLines 62 = .ok (.iconst 1, 1) := by decide +kernel
theorem dX5_numberLines_63 : decode cX5_numberLines 63 = .ok (.isub, 1) := by decide +kernel
theorem dX5_numberLines_64 : decode cX5_numberLines 64 = .ok (.goto 7, 3) := by decide +kernel
theorem dX5_numberLines_67 : decode cX5_numberLines 67 = .ok (.aload_n 0, 1) := by decide +kernel
theorem dX5_numberLines_68 : decode cX5_numberLines 68 = .ok (.getfield 30, 3) := by decide +kernel
theorem dX5_numberLines_71 : decode cX5_numberLines 71 = .ok (.istore_n 2, 1) := by decide +kernel
theorem dX5_numberLines_72 : decode cX5_numberLines 72 = .ok (.iload_n 1, 1) := by decide +kernel
theorem dX5_numberLines_73 : decode cX5_numberLines 73 = .ok (.iconst 2, 1) := by decide +kernel
theorem dX5_numberLines_74 : decode cX5_numberLines 74 = .ok (.iadd, 1) := by decide +kernel
theorem dX5_numberLines_75 : decode cX5_numberLines 75 = .ok (.istore_n 3, 1) := by decide +kernel
theorem dX5_numberLines_76 : decode cX5_numberLines 76 = .ok (.iload_n 3, 1) := by decide +kernel
theorem dX5_numberLines_77 : decode cX5_numberLines 77 = .ok (.iload_n 2, 1) := by decide +kernel
theorem dX5_numberLines_78 : decode cX5_numberLines 78 = .ok (.if_icmp .ge 15, 3) := by decide +kernel
theorem dX5_numberLines_81 : decode cX5_numberLines 81 = .ok (.aload_n 0, 1) := by decide +kernel
theorem dX5_numberLines_82 : decode cX5_numberLines 82 = .ok (.iload_n 1, 1) := by decide +kernel
theorem dX5_numberLines_83 : decode cX5_numberLines 83 = .ok (.iload_n 3, 1) := by decide +kernel
theorem dX5_numberLines_84 : decode cX5_numberLines 84 = .ok (.invokevirtual 47, 3) := by decide +kernel
theorem dX5_numberLines_87 : decode cX5_numberLines 87 = .ok (.iinc 3 1, 3) := by decide +kernel
theorem dX5_numberLines_90 : decode cX5_numberLines 90 = .ok (.goto (-14), 3) := by decide +kernel
theorem dX5_numberLines_93 : decode cX5_numberLines 93 = .ok (.iinc 1 1, 3) := by decide +kernel
theorem dX5_numberLines_96 : decode cX5_numberLines 96 = .ok (.goto (-50), 3) := by decide +kernel
theorem dX5_numberLines_99 : decode cX5_numberLines 99 = .ok (.return_, 1) := by decide +kernel
theorem dX5_numberLine_0 : decode cX5_numberLine 0 = .ok (.aload_n 0, 1) := by decide +kernel
theorem dX5_numberLine_1 : decode cX5_numberLine 1 = .ok (.getfield 40, 3) := by decide +kernel
theorem dX5_numberLine_4 : decode cX5_numberLine 4 = .ok (.bipush 27, 2) := by decide +kernel
theorem dX5_numberLine_6 : decode cX5_numberLine 6 = .ok (.if_icmp .lt 4, 3) := by decide +kernel
theorem dX5_numberLine_9 : decode cX5_numberLine 9 = .ok (.return_, 1) := by decide +kernel
theorem dX5_numberLine_10 : decode cX5_numberLine 10 = .ok (.aload_n 0, 1) := by decide +kernel
theorem dX5_numberLine_11 : decode cX5_numberLine 11 = .ok (.getfield 9, 3) := by decide +kernel
theorem dX5_numberLine_14 : decode cX5_numberLine 14 = .ok (.aload_n 0, 1) := by decide +kernel
theorem dX5_numberLine_15 : decode cX5_numberLine 15 = .ok (.getfield 40, 3) := by decide +kernel
theorem dX5_numberLine_18 : decode cX5_numberLine 18 = .ok (.iload_n 1, 1) := by decide +kernel
theorem dX5_numberLine_19 : decode cX5_numberLine 19 = .ok (.iastore, 1) := by decide +kernel
theorem dX5_numberLine_20 : decode cX5_numberLine 20 = .ok (.aload_n 0, 1) := by decide +kernel
theorem dX5_numberLine_21 : decode cX5_numberLine 21 = .ok (.getfield 15, 3) := by decide +kernel
theorem dX5_numberLine_24 : decode cX5_numberLine 24 = .ok (.aload_n 0, 1) := by decide +kernel
theorem dX5_numberLine_25 : decode cX5_numberLine 25 = .ok (.getfield 40, 3) := by decide +kernel
theorem dX5_numberLine_28 : decode cX5_numberLine 28 = .ok (.iload_n 2, 1) := by decide +kernel
theorem dX5_numberLine_29 : decode cX5_numberLine 29 = .ok (.iastore, 1) := by decide +kernel
theorem dX5_numberLine_30 : decode cX5_numberLine 30 = .ok (.aload_n 0, 1) := by decide +kernel
theorem dX5_numberLine_31 : decode cX5_numberLine 31 = .ok (.getfield 18, 3) := by decide +kernel
theorem dX5_numberLine_34 : decode cX5_numberLine 34 = .ok (.iload_n 1, 1) := by decide +kernel
theorem dX5_numberLine_35 : decode cX5_numberLine 35 = .ok (.bipush 9, 2) := by decide +kernel
theorem dX5_numberLine_37 : decode cX5_numberLine 37 = .ok (.imul, 1) := by decide +kernel
theorem dX5_numberLine_38 : decode cX5_numberLine 38 = .ok (.iload_n 2, 1) := by decide +kernel
theorem dX5_numberLine_39 : decode cX5_numberLine 39 = .ok (.iadd, 1) := by decide +kernel
theorem dX5_numberLine_40 : decode cX5_numberLine 40 = .ok (.aload_n 0, 1) := by decide +kernel
theorem dX5_numberLine_41 : decode cX5_numberLine 41 = .ok (.getfield 40, 3) := by decide +kernel
theorem dX5_numberLine_44 : decode cX5_numberLine 44 = .ok (.iastore, 1) := by decide +kernel
theorem dX5_numberLine_45 : decode cX5_numberLine 45 = .ok (.aload_n 0, 1) := by decide +kernel
theorem dX5_numberLine_46 : decode cX5_numberLine 46 = .ok (.getfield 18, 3) := by decide +kernel
theorem dX5_numberLine_49 : decode cX5_numberLine 49 = .ok (.iload_n 2, 1) := by decide +kernel
theorem dX5_numberLine_50 : decode cX5_numberLine 50 = .ok (.bipush 9, 2) := by decide +kernel
theorem dX5_numberLine_52 : decode cX5_numberLine 52 = .ok (.imul, 1) := by decide +kernel
theorem dX5_numberLine_53 : decode cX5_numberLine 53 = .ok (.iload_n 1, 1) := by decide +kernel
theorem dX5_numberLine_54 : decode cX5_numberLine 54 = .ok (.iadd, 1) := by decide +kernel
theorem dX5_numberLine_55 : decode cX5_numberLine 55 = .ok (.aload_n 0, 1) := by decide +kernel
theorem dX5_numberLine_56 : decode cX5_numberLine 56 = .ok (.getfield 40, 3) := by decide +kernel
theorem dX5_numberLine_59 : decode cX5_numberLine 59 = .ok (.iastore, 1) := by decide +kernel
theorem dX5_numberLine_60 : decode cX5_numberLine 60 = .ok (.aload_n 0, 1) := by decide +kernel
theorem dX5_numberLine_61 : decode cX5_numberLine 61 = .ok (.getfield 24, 3) := by decide +kernel
theorem dX5_numberLine_64 : decode cX5_numberLine 64 = .ok (.iload_n 1, 1) := by decide +kernel
theorem dX5_numberLine_65 : decode cX5_numberLine 65 = .ok (.dup2, 1) := by decide +kernel
theorem dX5_numberLine_66 : decode cX5_numberLine 66 = .ok (.iaload, 1) := by decide +kernel
theorem dX5_numberLine_67 : decode cX5_numberLine 67 = .ok (.iconst 1, 1) := by decide +kernel
theorem dX5_numberLine_68 : decode cX5_numberLine 68 = .ok (.aload_n 0, 1) := by decide +kernel
theorem dX5_numberLine_69 : decode cX5_numberLine 69 = .ok (.getfield 40, 3) := by decide +kernel
theorem dX5_numberLine_72 : decode cX5_numberLine 72 = .ok (.ishl, 1) := by decide +kernel
theorem dX5_numberLine_73 : decode cX5_numberLine 73 = .ok (.ior, 1) := by decide +kernel
theorem dX5_numberLine_74 : decode cX5_numberLine 74 = .ok (.iastore, 1) := by decide +kernel
theorem dX5_numberLine_75 : decode cX5_numberLine 75 = .ok (.aload_n 0, 1) := by decide +kernel
theorem dX5_numberLine_76 : decode cX5_numberLine 76 = .ok (.getfield 24, 3) := by decide +kernel
theorem dX5_numberLine_79 : decode cX5_numberLine 79 = .ok (.iload_n 2, 1) := by decide +kernel
theorem dX5_numberLine_80 : decode cX5_numberLine 80 = .ok (.dup2, 1) := by decide +kernel
theorem dX5_numberLine_81 : decode cX5_numberLine 81 = .ok (.iaload, 1) := by decide +kernel
theorem dX5_numberLine_82 : decode cX5_numberLine 82 = .ok (.iconst 1, 1) := by decide +kernel
theorem dX5_numberLine_83 : decode cX5_numberLine 83 = .ok (.aload_n 0, 1) := by decide +kernel
theorem dX5_numberLine_84 : decode cX5_numberLine 84 = .ok (.getfield 40, 3) := by decide +kernel
theorem dX5_numberLine_87 : decode cX5_numberLine 87 = .ok (.ishl, 1) := by decide +kernel
theorem dX5_numberLine_88 : decode cX5_numberLine 88 = .ok (.ior, 1) := by decide +kernel
theorem dX5_numberLine_89 : decode cX5_numberLine 89 = .ok (.iastore, 1) := by decide +kernel
theorem dX5_numberLine_90 : decode cX5_numberLine 90 = .ok (.aload_n 0, 1) := by decide +kernel
theorem dX5_numberLine_91 : decode cX5_numberLine 91 = .ok (.dup, 1) := by decide +kernel
theorem dX5_numberLine_92 : decode cX5_numberLine 92 = .ok (.getfield 40, 3) := by decide +kernel
theorem dX5_numberLine_95 : decode cX5_numberLine 95 = .ok (.iconst 1, 1) := by decide +kernel
theorem dX5_numberLine_96 : decode cX5_numberLine 96 = .ok (.iadd, 1) := by decide +kernel
theorem dX5_numberLine_97 : decode cX5_numberLine 97 = .ok (.putfield 40, 3) := by decide +kernel
theorem dX5_numberLine_100 : decode cX5_numberLine 100 = .ok (.return_, 1) := by decide +kernel
theorem dX5_findCrossers_0 : decode cX5_findCrossers 0 = .ok (.iconst 0, 1) := by decide +kernel
theorem dX5_findCrossers_1 : decode cX5_findCrossers 1 = .ok (.istore_n 1, 1) := by decide +kernel
theorem dX5_findCrossers_2 : decode cX5_findCrossers 2 = .ok (.iload_n 1, 1) := by decide +kernel
theorem dX5_findCrossers_3 : decode cX5_findCrossers 3 = .ok (.aload_n 0, 1) := by decide +kernel
theorem dX5_findCrossers_4 : decode cX5_findCrossers 4 = .ok (.getfield 40, 3) := by decide +kernel
theorem dX5_findCrossers_7 : decode cX5_findCrossers 7 = .ok (.if_icmp .ge 67, 3) := by decide +kernel
theorem dX5_findCrossers_10 : decode cX5_findCrossers 10 = .ok (.iconst 0, 1) := by decide +kernel
theorem dX5_findCrossers_11 : decode cX5_findCrossers 11 = .ok (.istore_n 2, 1) := by decide +kernel
theorem dX5_findCrossers_12 : decode cX5_findCrossers 12 = .ok (.iload_n 2, 1) := by decide +kernel
theorem dX5_findCrossers_13 : decode cX5_findCrossers 13 = .ok (.aload_n 0, 1) := by decide +kernel
theorem dX5_findCrossers_14 : decode cX5_findCrossers 14 = .ok (.getfield 40, 3) := by decide +kernel
theorem dX5_findCrossers_17 : decode cX5_findCrossers 17 = .ok (.if_icmp .ge 51, 3) := by decide +kernel
theorem dX5_findCrossers_20 : decode cX5_findCrossers 20 = .ok (.aload_n 0, 1) := by decide +kernel
theorem dX5_findCrossers_21 : decode cX5_findCrossers 21 = .ok (.getfield 9, 3) := by decide +kernel
theorem dX5_findCrossers_24 : decode cX5_findCrossers 24 = .ok (.iload_n 1, 1) := by decide +kernel
theorem dX5_findCrossers_25 : decode cX5_findCrossers 25 = .ok (.iaload, 1) := by decide +kernel
theorem dX5_findCrossers_26 : decode cX5_findCrossers 26 = .ok (.aload_n 0, 1) := by decide +kernel
theorem dX5_findCrossers_27 : decode cX5_findCrossers 27 = .ok (.getfield 15, 3) := by decide +kernel
theorem dX5_findCrossers_30 : decode cX5_findCrossers 30 = .ok (.iload_n 1, 1) := by decide +kernel
theorem dX5_findCrossers_31 : decode cX5_findCrossers 31 = .ok (.iaload, 1) := by decide +kernel
theorem dX5_findCrossers_32 : decode cX5_findCrossers 32 = .ok (.aload_n 0, 1) := by decide +kernel
theorem dX5_findCrossers_33 : decode cX5_findCrossers 33 = .ok (.getfield 9, 3) := by decide +kernel
theorem dX5_findCrossers_36 : decode cX5_findCrossers 36 = .ok (.iload_n 2, 1) := by decide +kernel
theorem dX5_findCrossers_37 : decode cX5_findCrossers 37 = .ok (.iaload, 1) := by decide +kernel
theorem dX5_findCrossers_38 : decode cX5_findCrossers 38 = .ok (.aload_n 0, 1) := by decide +kernel
theorem dX5_findCrossers_39 : decode cX5_findCrossers 39 = .ok (.getfield 15, 3) := by decide +kernel
theorem dX5_findCrossers_42 : decode cX5_findCrossers 42 = .ok (.iload_n 2, 1) := by decide +kernel
theorem dX5_findCrossers_43 : decode cX5_findCrossers 43 = .ok (.iaload, 1) := by decide +kernel
theorem dX5_findCrossers_44 : decode cX5_findCrossers 44 = .ok (.invokestatic 51, 3) := by decide +kernel
theorem dX5_findCrossers_47 : decode cX5_findCrossers 47 = .ok (.ifCond .eq 15, 3) := by decide +kernel
theorem dX5_findCrossers_50 : decode cX5_findCrossers 50 = .ok (.aload_n 0, 1) := by decide +kernel
theorem dX5_findCrossers_51 : decode cX5_findCrossers 51 = .ok (.getfield 21, 3) := by decide +kernel
theorem dX5_findCrossers_54 : decode cX5_findCrossers 54 = .ok (.iload_n 1, 1) := by decide +kernel
theorem dX5_findCrossers_55 : decode cX5_findCrossers 55 = .ok (.dup2, 1) := by decide +kernel
theorem dX5_findCrossers_56 : decode cX5_findCrossers 56 = .ok (.iaload, 1) := by decide +kernel
theorem dX5_findCrossers_57 : decode cX5_findCrossers 57 = .ok (.iconst 1, 1) := by decide +kernel
theorem dX5_findCrossers_58 : decode cX5_findCrossers 58 = .ok (.iload_n 2, 1) := by decide +kernel
theorem dX5_findCrossers_59 : decode cX5_findCrossers 59 = .ok (.ishl, 1) := by decide +kernel
theorem dX5_findCrossers_60 : decode cX5_findCrossers 60 = .ok (.ior, 1) := by decide +kernel
theorem dX5_findCrossers_61 : decode cX5_findCrossers 61 = .ok (.iastore, 1) := by decide +kernel
theorem dX5_findCrossers_62 : decode cX5_findCrossers 62 = .ok (.iinc 2 1, 3) := by decide +kernel
theorem dX5_findCrossers_65 : decode cX5_findCrossers 65 = .ok (.goto (-53), 3) := by decide +kernel
theorem dX5_findCrossers_68 : decode cX5_findCrossers 68 = .ok (.iinc 1 1, 3) := by decide +kernel
theorem dX5_findCrossers_71 : decode cX5_findCrossers 71 = .ok (.goto (-69), 3) := by decide +kernel
theorem dX5_findCrossers_74 : decode cX5_findCrossers 74 = .ok (.return_, 1) := by decide +kernel
theorem dX5_cross_0 : decode cX5_cross 0 = .ok (.iload_n 0, 1) := by decide +kernel
theorem dX5_cross_1 : decode cX5_cross 1 = .ok (.iload_n 2, 1) := by decide +kernel
theorem dX5_cross_2 : decode cX5_cross 2 = .ok (.if_icmp .ge 13, 3) := by decide +kernel
theorem dX5_cross_5 : decode cX5_cross 5 = .ok (.iload_n 2, 1) := by decide +kernel
theorem dX5_cross_6 : decode cX5_cross 6 = .ok (.iload_n 1, 1) := by decide +kernel
theorem dX5_cross_7 : decode cX5_cross 7 = .ok (.if_icmp .ge 8, 3) := by decide +kernel
theorem dX5_cross_10 : decode cX5_cross 10 = .ok (.iload_n 1, 1) := by decide +kernel
theorem dX5_cross_11 : decode cX5_cross 11 = .ok (.iload_n 3, 1) := by decide +kernel
theorem dX5_cross_12 : decode cX5_cross 12 = .ok (.if_icmp .lt 18, 3) := by decide +kernel
theorem dX5_cross_15 : decode cX5_cross 15 = .ok (.iload_n 2, 1) := by decide +kernel
theorem dX5_cross_16 : decode cX5_cross 16 = .ok (.iload_n 0, 1) := by decide +kernel
theorem dX5_cross_17 : decode cX5_cross 17 = .ok (.if_icmp .ge 17, 3) := by decide +kernel
theorem dX5_cross_20 : decode cX5_cross 20 = .ok (.iload_n 0, 1) := by decide +kernel
theorem dX5_cross_21 : decode cX5_cross 21 = .ok (.iload_n 3, 1) := by decide +kernel
theorem dX5_cross_22 : decode cX5_cross 22 = .ok (.if_icmp .ge 12, 3) := by decide +kernel
theorem dX5_cross_25 : decode cX5_cross 25 = .ok (.iload_n 3, 1) := by decide +kernel
theorem dX5_cross_26 : decode cX5_cross 26 = .ok (.iload_n 1, 1) := by decide +kernel
theorem dX5_cross_27 : decode cX5_cross 27 = .ok (.if_icmp .ge 7, 3) := by decide +kernel
theorem dX5_cross_30 : decode cX5_cross 30 = .ok (.iconst 1, 1) := by decide +kernel
theorem dX5_cross_31 : decode cX5_cross 31 = .ok (.goto 4, 3) := by decide +kernel
theorem dX5_cross_34 : decode cX5_cross 34 = .ok (.iconst 0, 1) := by decide +kernel
theorem dX5_cross_35 : decode cX5_cross 35 = .ok (.ireturn, 1) := by decide +kernel
theorem dX5_gatherCuts_0 : decode cX5_gatherCuts 0 = .ok (.iload 4, 2) := by decide +kernel
theorem dX5_gatherCuts_2 : decode cX5_gatherCuts 2 = .ok (.ifCond .ne 9, 3) := by decide +kernel
theorem dX5_gatherCuts_5 : decode cX5_gatherCuts 5 = .ok (.aload_n 0, 1) := by decide +kernel
theorem dX5_gatherCuts_6 : decode cX5_gatherCuts 6 = .ok (.iload_n 2, 1) := by decide +kernel
theorem dX5_gatherCuts_7 : decode cX5_gatherCuts 7 = .ok (.invokevirtual 55, 3) := by decide +kernel
theorem dX5_gatherCuts_10 : decode cX5_gatherCuts 10 = .ok (.return_, 1) := by decide +kernel
theorem dX5_gatherCuts_11 : decode cX5_gatherCuts 11 = .ok (.iload_n 1, 1) := by decide +kernel
theorem dX5_gatherCuts_12 : decode cX5_gatherCuts 12 = .ok (.ifCond .lt 12, 3) := by decide +kernel
theorem dX5_gatherCuts_15 : decode cX5_gatherCuts 15 = .ok (.iload_n 3, 1) := by decide +kernel
theorem dX5_gatherCuts_16 : decode cX5_gatherCuts 16 = .ok (.invokestatic 59, 3) := by decide +kernel
theorem dX5_gatherCuts_19 : decode cX5_gatherCuts 19 = .ok (.iload 4, 2) := by decide +kernel
theorem dX5_gatherCuts_21 : decode cX5_gatherCuts 21 = .ok (.if_icmp .ge 4, 3) := by decide +kernel
theorem dX5_gatherCuts_24 : decode cX5_gatherCuts 24 = .ok (.return_, 1) := by decide +kernel
theorem dX5_gatherCuts_25 : decode cX5_gatherCuts 25 = .ok (.iconst 1, 1) := by decide +kernel
theorem dX5_gatherCuts_26 : decode cX5_gatherCuts 26 = .ok (.iload_n 1, 1) := by decide +kernel
theorem dX5_gatherCuts_27 : decode cX5_gatherCuts 27 = .ok (.ishl, 1) := by decide +kernel
theorem dX5_gatherCuts_28 : decode cX5_gatherCuts 28 = .ok (.istore 5, 2) := by decide +kernel
theorem dX5_gatherCuts_30 : decode cX5_gatherCuts 30 = .ok (.iload_n 3, 1) := by decide +kernel
theorem dX5_gatherCuts_31 : decode cX5_gatherCuts 31 = .ok (.iload 5, 2) := by decide +kernel
theorem dX5_gatherCuts_33 : decode cX5_gatherCuts 33 = .ok (.iconst (-1), 1) := by decide +kernel
theorem dX5_gatherCuts_34 : decode cX5_gatherCuts 34 = .ok (.ixor, 1) := by decide +kernel
theorem dX5_gatherCuts_35 : decode cX5_gatherCuts 35 = .ok (.iand, 1) := by decide +kernel
theorem dX5_gatherCuts_36 : decode cX5_gatherCuts 36 = .ok (.istore 6, 2) := by decide +kernel
theorem dX5_gatherCuts_38 : decode cX5_gatherCuts 38 = .ok (.aload_n 0, 1) := by decide +kernel
theorem dX5_gatherCuts_39 : decode cX5_gatherCuts 39 = .ok (.iload_n 1, 1) := by decide +kernel
theorem dX5_gatherCuts_40 : decode cX5_gatherCuts 40 = .ok (.iconst 1, 1) := by decide +kernel
theorem dX5_gatherCuts_41 : decode cX5_gatherCuts 41 = .ok (.isub, 1) := by decide +kernel
theorem dX5_gatherCuts_42 : decode cX5_gatherCuts 42 = .ok (.iload_n 2, 1) := by decide +kernel
theorem dX5_gatherCuts_43 : decode cX5_gatherCuts 43 = .ok (.iload 6, 2) := by decide +kernel
theorem dX5_gatherCuts_45 : decode cX5_gatherCuts 45 = .ok (.iload 4, 2) := by decide +kernel
theorem dX5_gatherCuts_47 : decode cX5_gatherCuts 47 = .ok (.invokevirtual 43, 3) := by decide +kernel
theorem dX5_gatherCuts_50 : decode cX5_gatherCuts 50 = .ok (.iload_n 3, 1) := by decide +kernel
theorem dX5_gatherCuts_51 : decode cX5_gatherCuts 51 = .ok (.iload 5, 2) := by decide +kernel
theorem dX5_gatherCuts_53 : decode cX5_gatherCuts 53 = .ok (.iand, 1) := by decide +kernel
theorem dX5_gatherCuts_54 : decode cX5_gatherCuts 54 = .ok (.ifCond .eq 29, 3) := by decide +kernel
theorem dX5_gatherCuts_57 : decode cX5_gatherCuts 57 = .ok (.aload_n 0, 1) := by decide +kernel
theorem dX5_gatherCuts_58 : decode cX5_gatherCuts 58 = .ok (.iload_n 1, 1) := by decide +kernel
theorem dX5_gatherCuts_59 : decode cX5_gatherCuts 59 = .ok (.iconst 1, 1) := by decide +kernel
theorem dX5_gatherCuts_60 : decode cX5_gatherCuts 60 = .ok (.isub, 1) := by decide +kernel
theorem dX5_gatherCuts_61 : decode cX5_gatherCuts 61 = .ok (.iload_n 2, 1) := by decide +kernel
theorem dX5_gatherCuts_62 : decode cX5_gatherCuts 62 = .ok (.iload 5, 2) := by decide +kernel
theorem dX5_gatherCuts_64 : decode cX5_gatherCuts 64 = .ok (.ior, 1) := by decide +kernel
theorem dX5_gatherCuts_65 : decode cX5_gatherCuts 65 = .ok (.iload 6, 2) := by decide +kernel
theorem dX5_gatherCuts_67 : decode cX5_gatherCuts 67 = .ok (.aload_n 0, 1) := by decide +kernel
theorem dX5_gatherCuts_68 : decode cX5_gatherCuts 68 = .ok (.getfield 21, 3) := by decide +kernel
theorem dX5_gatherCuts_71 : decode cX5_gatherCuts 71 = .ok (.iload_n 1, 1) := by decide +kernel
theorem dX5_gatherCuts_72 : decode cX5_gatherCuts 72 = .ok (.iaload, 1) := by decide +kernel
theorem dX5_gatherCuts_73 : decode cX5_gatherCuts 73 = .ok (.iconst (-1), 1) := by decide +kernel
theorem dX5_gatherCuts_74 : decode cX5_gatherCuts 74 = .ok (.ixor, 1) := by decide +kernel
theorem dX5_gatherCuts_75 : decode cX5_gatherCuts 75 = .ok (.iand, 1) := by decide +kernel
theorem dX5_gatherCuts_76 : decode cX5_gatherCuts 76 = .ok (.iload 4, 2) := by decide +kernel
theorem dX5_gatherCuts_78 : decode cX5_gatherCuts 78 = .ok (.iconst 1, 1) := by decide +kernel
theorem dX5_gatherCuts_79 : decode cX5_gatherCuts 79 = .ok (.isub, 1) := by decide +kernel
theorem dX5_gatherCuts_80 : decode cX5_gatherCuts 80 = .ok (.invokevirtual 43, 3) := by decide +kernel
theorem dX5_gatherCuts_83 : decode cX5_gatherCuts 83 = .ok (.return_, 1) := by decide +kernel
theorem dX5_keepCut_0 : decode cX5_keepCut 0 = .ok (.aload_n 0, 1) := by decide +kernel
theorem dX5_keepCut_1 : decode cX5_keepCut 1 = .ok (.getfield 65, 3) := by decide +kernel
theorem dX5_keepCut_4 : decode cX5_keepCut 4 = .ok (.sipush 429, 3) := by decide +kernel
theorem dX5_keepCut_7 : decode cX5_keepCut 7 = .ok (.if_icmp .ge 23, 3) := by decide +kernel
theorem dX5_keepCut_10 : decode cX5_keepCut 10 = .ok (.aload_n 0, 1) := by decide +kernel
theorem dX5_keepCut_11 : decode cX5_keepCut 11 = .ok (.getfield 27, 3) := by decide +kernel
theorem dX5_keepCut_14 : decode cX5_keepCut 14 = .ok (.aload_n 0, 1) := by decide +kernel
theorem dX5_keepCut_15 : decode cX5_keepCut 15 = .ok (.getfield 65, 3) := by decide +kernel
theorem dX5_keepCut_18 : decode cX5_keepCut 18 = .ok (.iload_n 1, 1) := by decide +kernel
theorem dX5_keepCut_19 : decode cX5_keepCut 19 = .ok (.iastore, 1) := by decide +kernel
theorem dX5_keepCut_20 : decode cX5_keepCut 20 = .ok (.aload_n 0, 1) := by decide +kernel
theorem dX5_keepCut_21 : decode cX5_keepCut 21 = .ok (.dup, 1) := by decide +kernel
theorem dX5_keepCut_22 : decode cX5_keepCut 22 = .ok (.getfield 65, 3) := by decide +kernel
theorem dX5_keepCut_25 : decode cX5_keepCut 25 = .ok (.iconst 1, 1) := by decide +kernel
theorem dX5_keepCut_26 : decode cX5_keepCut 26 = .ok (.iadd, 1) := by decide +kernel
theorem dX5_keepCut_27 : decode cX5_keepCut 27 = .ok (.putfield 65, 3) := by decide +kernel
theorem dX5_keepCut_30 : decode cX5_keepCut 30 = .ok (.return_, 1) := by decide +kernel
theorem dX5_corners_0 : decode cX5_corners 0 = .ok (.aload_n 0, 1) := by decide +kernel
theorem dX5_corners_1 : decode cX5_corners 1 = .ok (.getfield 30, 3) := by decide +kernel
theorem dX5_corners_4 : decode cX5_corners 4 = .ok (.ireturn, 1) := by decide +kernel
theorem dX5_lineCount_0 : decode cX5_lineCount 0 = .ok (.aload_n 0, 1) := by decide +kernel
theorem dX5_lineCount_1 : decode cX5_lineCount 1 = .ok (.getfield 40, 3) := by decide +kernel
theorem dX5_lineCount_4 : decode cX5_lineCount 4 = .ok (.ireturn, 1) := by decide +kernel
theorem dX5_cutCount_0 : decode cX5_cutCount 0 = .ok (.aload_n 0, 1) := by decide +kernel
theorem dX5_cutCount_1 : decode cX5_cutCount 1 = .ok (.getfield 65, 3) := by decide +kernel
theorem dX5_cutCount_4 : decode cX5_cutCount 4 = .ok (.ireturn, 1) := by decide +kernel
theorem dX5_hasCorner_0 : decode cX5_hasCorner 0 = .ok (.iload_n 1, 1) := by decide +kernel
theorem dX5_hasCorner_1 : decode cX5_hasCorner 1 = .ok (.ifCond .lt 15, 3) := by decide +kernel
theorem dX5_hasCorner_4 : decode cX5_hasCorner 4 = .ok (.iload_n 1, 1) := by decide +kernel
theorem dX5_hasCorner_5 : decode cX5_hasCorner 5 = .ok (.aload_n 0, 1) := by decide +kernel
theorem dX5_hasCorner_6 : decode cX5_hasCorner 6 = .ok (.getfield 30, 3) := by decide +kernel
theorem dX5_hasCorner_9 : decode cX5_hasCorner 9 = .ok (.if_icmp .ge 7, 3) := by decide +kernel
theorem dX5_hasCorner_12 : decode cX5_hasCorner 12 = .ok (.iconst 1, 1) := by decide +kernel
theorem dX5_hasCorner_13 : decode cX5_hasCorner 13 = .ok (.goto 4, 3) := by decide +kernel
theorem dX5_hasCorner_16 : decode cX5_hasCorner 16 = .ok (.iconst 0, 1) := by decide +kernel
theorem dX5_hasCorner_17 : decode cX5_hasCorner 17 = .ok (.ireturn, 1) := by decide +kernel
theorem dX5_hasCut_0 : decode cX5_hasCut 0 = .ok (.iload_n 1, 1) := by decide +kernel
theorem dX5_hasCut_1 : decode cX5_hasCut 1 = .ok (.ifCond .lt 15, 3) := by decide +kernel
theorem dX5_hasCut_4 : decode cX5_hasCut 4 = .ok (.iload_n 1, 1) := by decide +kernel
theorem dX5_hasCut_5 : decode cX5_hasCut 5 = .ok (.aload_n 0, 1) := by decide +kernel
theorem dX5_hasCut_6 : decode cX5_hasCut 6 = .ok (.getfield 65, 3) := by decide +kernel
theorem dX5_hasCut_9 : decode cX5_hasCut 9 = .ok (.if_icmp .ge 7, 3) := by decide +kernel
theorem dX5_hasCut_12 : decode cX5_hasCut 12 = .ok (.iconst 1, 1) := by decide +kernel
theorem dX5_hasCut_13 : decode cX5_hasCut 13 = .ok (.goto 4, 3) := by decide +kernel
theorem dX5_hasCut_16 : decode cX5_hasCut 16 = .ok (.iconst 0, 1) := by decide +kernel
theorem dX5_hasCut_17 : decode cX5_hasCut 17 = .ok (.ireturn, 1) := by decide +kernel
theorem dX5_cutAt_0 : decode cX5_cutAt 0 = .ok (.aload_n 0, 1) := by decide +kernel
theorem dX5_cutAt_1 : decode cX5_cutAt 1 = .ok (.iload_n 1, 1) := by decide +kernel
theorem dX5_cutAt_2 : decode cX5_cutAt 2 = .ok (.invokevirtual 68, 3) := by decide +kernel
theorem dX5_cutAt_5 : decode cX5_cutAt 5 = .ok (.ifCond .eq 12, 3) := by decide +kernel
theorem dX5_cutAt_8 : decode cX5_cutAt 8 = .ok (.aload_n 0, 1) := by decide +kernel
theorem dX5_cutAt_9 : decode cX5_cutAt 9 = .ok (.getfield 27, 3) := by decide +kernel
theorem dX5_cutAt_12 : decode cX5_cutAt 12 = .ok (.iload_n 1, 1) := by decide +kernel
theorem dX5_cutAt_13 : decode cX5_cutAt 13 = .ok (.iaload, 1) := by decide +kernel
theorem dX5_cutAt_14 : decode cX5_cutAt 14 = .ok (.goto 4, 3) := by decide +kernel
theorem dX5_cutAt_17 : decode cX5_cutAt 17 = .ok (.iconst (-1), 1) := by decide +kernel
theorem dX5_cutAt_18 : decode cX5_cutAt 18 = .ok (.ireturn, 1) := by decide +kernel
theorem dX5_numberOf_0 : decode cX5_numberOf 0 = .ok (.iconst 0, 1) := by decide +kernel
theorem dX5_numberOf_1 : decode cX5_numberOf 1 = .ok (.istore_n 2, 1) := by decide +kernel
theorem dX5_numberOf_2 : decode cX5_numberOf 2 = .ok (.aload_n 0, 1) := by decide +kernel
theorem dX5_numberOf_3 : decode cX5_numberOf 3 = .ok (.getfield 65, 3) := by decide +kernel
theorem dX5_numberOf_6 : decode cX5_numberOf 6 = .ok (.iconst 1, 1) := by decide +kernel
theorem dX5_numberOf_7 : decode cX5_numberOf 7 = .ok (.isub, 1) := by decide +kernel
theorem dX5_numberOf_8 : decode cX5_numberOf 8 = .ok (.istore_n 3, 1) := by decide +kernel
theorem dX5_numberOf_9 : decode cX5_numberOf 9 = .ok (.iconst 0, 1) := by decide +kernel
theorem dX5_numberOf_10 : decode cX5_numberOf 10 = .ok (.istore 4, 2) := by decide +kernel
theorem dX5_numberOf_12 : decode cX5_numberOf 12 = .ok (.iload 4, 2) := by decide +kernel
theorem dX5_numberOf_14 : decode cX5_numberOf 14 = .ok (.sipush 429, 3) := by decide +kernel
theorem dX5_numberOf_17 : decode cX5_numberOf 17 = .ok (.if_icmp .ge 59, 3) := by decide +kernel
theorem dX5_numberOf_20 : decode cX5_numberOf 20 = .ok (.iload_n 2, 1) := by decide +kernel
theorem dX5_numberOf_21 : decode cX5_numberOf 21 = .ok (.iload_n 3, 1) := by decide +kernel
theorem dX5_numberOf_22 : decode cX5_numberOf 22 = .ok (.if_icmp .gt 54, 3) := by decide +kernel
theorem dX5_numberOf_25 : decode cX5_numberOf 25 = .ok (.iload_n 2, 1) := by decide +kernel
theorem dX5_numberOf_26 : decode cX5_numberOf 26 = .ok (.iload_n 3, 1) := by decide +kernel
theorem dX5_numberOf_27 : decode cX5_numberOf 27 = .ok (.iadd, 1) := by decide +kernel
theorem dX5_numberOf_28 : decode cX5_numberOf 28 = .ok (.iconst 1, 1) := by decide +kernel
theorem dX5_numberOf_29 : decode cX5_numberOf 29 = .ok (.ishr, 1) := by decide +kernel
theorem dX5_numberOf_30 : decode cX5_numberOf 30 = .ok (.istore 5, 2) := by decide +kernel
theorem dX5_numberOf_32 : decode cX5_numberOf 32 = .ok (.aload_n 0, 1) := by decide +kernel
theorem dX5_numberOf_33 : decode cX5_numberOf 33 = .ok (.getfield 27, 3) := by decide +kernel
theorem dX5_numberOf_36 : decode cX5_numberOf 36 = .ok (.iload 5, 2) := by decide +kernel
theorem dX5_numberOf_38 : decode cX5_numberOf 38 = .ok (.iaload, 1) := by decide +kernel
theorem dX5_numberOf_39 : decode cX5_numberOf 39 = .ok (.iload_n 1, 1) := by decide +kernel
theorem dX5_numberOf_40 : decode cX5_numberOf 40 = .ok (.if_icmp .ne 6, 3) := by decide +kernel
theorem dX5_numberOf_43 : decode cX5_numberOf 43 = .ok (.iload 5, 2) := by decide +kernel
theorem dX5_numberOf_45 : decode cX5_numberOf 45 = .ok (.ireturn, 1) := by decide +kernel
theorem dX5_numberOf_46 : decode cX5_numberOf 46 = .ok (.aload_n 0, 1) := by decide +kernel
theorem dX5_numberOf_47 : decode cX5_numberOf 47 = .ok (.getfield 27, 3) := by decide +kernel
theorem dX5_numberOf_50 : decode cX5_numberOf 50 = .ok (.iload 5, 2) := by decide +kernel
theorem dX5_numberOf_52 : decode cX5_numberOf 52 = .ok (.iaload, 1) := by decide +kernel
theorem dX5_numberOf_53 : decode cX5_numberOf 53 = .ok (.iload_n 1, 1) := by decide +kernel
theorem dX5_numberOf_54 : decode cX5_numberOf 54 = .ok (.if_icmp .ge 11, 3) := by decide +kernel
theorem dX5_numberOf_57 : decode cX5_numberOf 57 = .ok (.iload 5, 2) := by decide +kernel
theorem dX5_numberOf_59 : decode cX5_numberOf 59 = .ok (.iconst 1, 1) := by decide +kernel
theorem dX5_numberOf_60 : decode cX5_numberOf 60 = .ok (.iadd, 1) := by decide +kernel
theorem dX5_numberOf_61 : decode cX5_numberOf 61 = .ok (.istore_n 2, 1) := by decide +kernel
theorem dX5_numberOf_62 : decode cX5_numberOf 62 = .ok (.goto 8, 3) := by decide +kernel
theorem dX5_numberOf_65 : decode cX5_numberOf 65 = .ok (.iload 5, 2) := by decide +kernel
theorem dX5_numberOf_67 : decode cX5_numberOf 67 = .ok (.iconst 1, 1) := by decide +kernel
theorem dX5_numberOf_68 : decode cX5_numberOf 68 = .ok (.isub, 1) := by decide +kernel
theorem dX5_numberOf_69 : decode cX5_numberOf 69 = .ok (.istore_n 3, 1) := by decide +kernel
theorem dX5_numberOf_70 : decode cX5_numberOf 70 = .ok (.iinc 4 1, 3) := by decide +kernel
theorem dX5_numberOf_73 : decode cX5_numberOf 73 = .ok (.goto (-61), 3) := by decide +kernel
theorem dX5_numberOf_76 : decode cX5_numberOf 76 = .ok (.iconst (-1), 1) := by decide +kernel
theorem dX5_numberOf_77 : decode cX5_numberOf 77 = .ok (.ireturn, 1) := by decide +kernel
theorem dX5_areNext_0 : decode cX5_areNext 0 = .ok (.iload_n 1, 1) := by decide +kernel
theorem dX5_areNext_1 : decode cX5_areNext 1 = .ok (.iload_n 2, 1) := by decide +kernel
theorem dX5_areNext_2 : decode cX5_areNext 2 = .ok (.isub, 1) := by decide +kernel
theorem dX5_areNext_3 : decode cX5_areNext 3 = .ok (.invokestatic 72, 3) := by decide +kernel
theorem dX5_areNext_6 : decode cX5_areNext 6 = .ok (.istore_n 3, 1) := by decide +kernel
theorem dX5_areNext_7 : decode cX5_areNext 7 = .ok (.iload_n 3, 1) := by decide +kernel
theorem dX5_areNext_8 : decode cX5_areNext 8 = .ok (.iconst 1, 1) := by decide +kernel
theorem dX5_areNext_9 : decode cX5_areNext 9 = .ok (.if_icmp .eq 13, 3) := by decide +kernel
theorem dX5_areNext_12 : decode cX5_areNext 12 = .ok (.iload_n 3, 1) := by decide +kernel
theorem dX5_areNext_13 : decode cX5_areNext 13 = .ok (.aload_n 0, 1) := by decide +kernel
theorem dX5_areNext_14 : decode cX5_areNext 14 = .ok (.getfield 30, 3) := by decide +kernel
theorem dX5_areNext_17 : decode cX5_areNext 17 = .ok (.iconst 1, 1) := by decide +kernel
theorem dX5_areNext_18 : decode cX5_areNext 18 = .ok (.isub, 1) := by decide +kernel
theorem dX5_areNext_19 : decode cX5_areNext 19 = .ok (.if_icmp .ne 7, 3) := by decide +kernel
theorem dX5_areNext_22 : decode cX5_areNext 22 = .ok (.iconst 1, 1) := by decide +kernel
theorem dX5_areNext_23 : decode cX5_areNext 23 = .ok (.goto 4, 3) := by decide +kernel
theorem dX5_areNext_26 : decode cX5_areNext 26 = .ok (.iconst 0, 1) := by decide +kernel
theorem dX5_areNext_27 : decode cX5_areNext 27 = .ok (.ireturn, 1) := by decide +kernel
theorem dX5_lineOf_0 : decode cX5_lineOf 0 = .ok (.aload_n 0, 1) := by decide +kernel
theorem dX5_lineOf_1 : decode cX5_lineOf 1 = .ok (.iload_n 1, 1) := by decide +kernel
theorem dX5_lineOf_2 : decode cX5_lineOf 2 = .ok (.invokevirtual 77, 3) := by decide +kernel
theorem dX5_lineOf_5 : decode cX5_lineOf 5 = .ok (.ifCond .eq 25, 3) := by decide +kernel
theorem dX5_lineOf_8 : decode cX5_lineOf 8 = .ok (.aload_n 0, 1) := by decide +kernel
theorem dX5_lineOf_9 : decode cX5_lineOf 9 = .ok (.iload_n 2, 1) := by decide +kernel
theorem dX5_lineOf_10 : decode cX5_lineOf 10 = .ok (.invokevirtual 77, 3) := by decide +kernel
theorem dX5_lineOf_13 : decode cX5_lineOf 13 = .ok (.ifCond .eq 17, 3) := by decide +kernel
theorem dX5_lineOf_16 : decode cX5_lineOf 16 = .ok (.aload_n 0, 1) := by decide +kernel
theorem dX5_lineOf_17 : decode cX5_lineOf 17 = .ok (.getfield 18, 3) := by decide +kernel
theorem dX5_lineOf_20 : decode cX5_lineOf 20 = .ok (.iload_n 1, 1) := by decide +kernel
theorem dX5_lineOf_21 : decode cX5_lineOf 21 = .ok (.bipush 9, 2) := by decide +kernel
theorem dX5_lineOf_23 : decode cX5_lineOf 23 = .ok (.imul, 1) := by decide +kernel
theorem dX5_lineOf_24 : decode cX5_lineOf 24 = .ok (.iload_n 2, 1) := by decide +kernel
theorem dX5_lineOf_25 : decode cX5_lineOf 25 = .ok (.iadd, 1) := by decide +kernel
theorem dX5_lineOf_26 : decode cX5_lineOf 26 = .ok (.iaload, 1) := by decide +kernel
theorem dX5_lineOf_27 : decode cX5_lineOf 27 = .ok (.goto 4, 3) := by decide +kernel
theorem dX5_lineOf_30 : decode cX5_lineOf 30 = .ok (.iconst (-1), 1) := by decide +kernel
theorem dX5_lineOf_31 : decode cX5_lineOf 31 = .ok (.ireturn, 1) := by decide +kernel
theorem dX5_pairOf_0 : decode cX5_pairOf 0 = .ok (.aload_n 0, 1) := by decide +kernel
theorem dX5_pairOf_1 : decode cX5_pairOf 1 = .ok (.iload_n 1, 1) := by decide +kernel
theorem dX5_pairOf_2 : decode cX5_pairOf 2 = .ok (.invokevirtual 80, 3) := by decide +kernel
theorem dX5_pairOf_5 : decode cX5_pairOf 5 = .ok (.ifCond .eq 22, 3) := by decide +kernel
theorem dX5_pairOf_8 : decode cX5_pairOf 8 = .ok (.bipush 16, 2) := by decide +kernel
theorem dX5_pairOf_10 : decode cX5_pairOf 10 = .ok (.aload_n 0, 1) := by decide +kernel
theorem dX5_pairOf_11 : decode cX5_pairOf 11 = .ok (.getfield 9, 3) := by decide +kernel
theorem dX5_pairOf_14 : decode cX5_pairOf 14 = .ok (.iload_n 1, 1) := by decide +kernel
theorem dX5_pairOf_15 : decode cX5_pairOf 15 = .ok (.iaload, 1) := by decide +kernel
theorem dX5_pairOf_16 : decode cX5_pairOf 16 = .ok (.imul, 1) := by decide +kernel
theorem dX5_pairOf_17 : decode cX5_pairOf 17 = .ok (.aload_n 0, 1) := by decide +kernel
theorem dX5_pairOf_18 : decode cX5_pairOf 18 = .ok (.getfield 15, 3) := by decide +kernel
theorem dX5_pairOf_21 : decode cX5_pairOf 21 = .ok (.iload_n 1, 1) := by decide +kernel
theorem dX5_pairOf_22 : decode cX5_pairOf 22 = .ok (.iaload, 1) := by decide +kernel
theorem dX5_pairOf_23 : decode cX5_pairOf 23 = .ok (.iadd, 1) := by decide +kernel
theorem dX5_pairOf_24 : decode cX5_pairOf 24 = .ok (.goto 4, 3) := by decide +kernel
theorem dX5_pairOf_27 : decode cX5_pairOf 27 = .ok (.iconst (-1), 1) := by decide +kernel
theorem dX5_pairOf_28 : decode cX5_pairOf 28 = .ok (.ireturn, 1) := by decide +kernel
theorem dX5_lesserOf_0 : decode cX5_lesserOf 0 = .ok (.aload_n 0, 1) := by decide +kernel
theorem dX5_lesserOf_1 : decode cX5_lesserOf 1 = .ok (.iload_n 1, 1) := by decide +kernel
theorem dX5_lesserOf_2 : decode cX5_lesserOf 2 = .ok (.invokevirtual 80, 3) := by decide +kernel
theorem dX5_lesserOf_5 : decode cX5_lesserOf 5 = .ok (.ifCond .eq 12, 3) := by decide +kernel
theorem dX5_lesserOf_8 : decode cX5_lesserOf 8 = .ok (.aload_n 0, 1) := by decide +kernel
theorem dX5_lesserOf_9 : decode cX5_lesserOf 9 = .ok (.getfield 9, 3) := by decide +kernel
theorem dX5_lesserOf_12 : decode cX5_lesserOf 12 = .ok (.iload_n 1, 1) := by decide +kernel
theorem dX5_lesserOf_13 : decode cX5_lesserOf 13 = .ok (.iaload, 1) := by decide +kernel
theorem dX5_lesserOf_14 : decode cX5_lesserOf 14 = .ok (.goto 4, 3) := by decide +kernel
theorem dX5_lesserOf_17 : decode cX5_lesserOf 17 = .ok (.iconst (-1), 1) := by decide +kernel
theorem dX5_lesserOf_18 : decode cX5_lesserOf 18 = .ok (.ireturn, 1) := by decide +kernel
theorem dX5_greaterOf_0 : decode cX5_greaterOf 0 = .ok (.aload_n 0, 1) := by decide +kernel
theorem dX5_greaterOf_1 : decode cX5_greaterOf 1 = .ok (.iload_n 1, 1) := by decide +kernel
theorem dX5_greaterOf_2 : decode cX5_greaterOf 2 = .ok (.invokevirtual 80, 3) := by decide +kernel
theorem dX5_greaterOf_5 : decode cX5_greaterOf 5 = .ok (.ifCond .eq 12, 3) := by decide +kernel
theorem dX5_greaterOf_8 : decode cX5_greaterOf 8 = .ok (.aload_n 0, 1) := by decide +kernel
theorem dX5_greaterOf_9 : decode cX5_greaterOf 9 = .ok (.getfield 15, 3) := by decide +kernel
theorem dX5_greaterOf_12 : decode cX5_greaterOf 12 = .ok (.iload_n 1, 1) := by decide +kernel
theorem dX5_greaterOf_13 : decode cX5_greaterOf 13 = .ok (.iaload, 1) := by decide +kernel
theorem dX5_greaterOf_14 : decode cX5_greaterOf 14 = .ok (.goto 4, 3) := by decide +kernel
theorem dX5_greaterOf_17 : decode cX5_greaterOf 17 = .ok (.iconst (-1), 1) := by decide +kernel
theorem dX5_greaterOf_18 : decode cX5_greaterOf 18 = .ok (.ireturn, 1) := by decide +kernel
theorem dX5_crossersOf_0 : decode cX5_crossersOf 0 = .ok (.aload_n 0, 1) := by decide +kernel
theorem dX5_crossersOf_1 : decode cX5_crossersOf 1 = .ok (.iload_n 1, 1) := by decide +kernel
theorem dX5_crossersOf_2 : decode cX5_crossersOf 2 = .ok (.invokevirtual 80, 3) := by decide +kernel
theorem dX5_crossersOf_5 : decode cX5_crossersOf 5 = .ok (.ifCond .eq 12, 3) := by decide +kernel
theorem dX5_crossersOf_8 : decode cX5_crossersOf 8 = .ok (.aload_n 0, 1) := by decide +kernel
theorem dX5_crossersOf_9 : decode cX5_crossersOf 9 = .ok (.getfield 21, 3) := by decide +kernel
theorem dX5_crossersOf_12 : decode cX5_crossersOf 12 = .ok (.iload_n 1, 1) := by decide +kernel
theorem dX5_crossersOf_13 : decode cX5_crossersOf 13 = .ok (.iaload, 1) := by decide +kernel
theorem dX5_crossersOf_14 : decode cX5_crossersOf 14 = .ok (.goto 4, 3) := by decide +kernel
theorem dX5_crossersOf_17 : decode cX5_crossersOf 17 = .ok (.iconst 0, 1) := by decide +kernel
theorem dX5_crossersOf_18 : decode cX5_crossersOf 18 = .ok (.ireturn, 1) := by decide +kernel
theorem dX5_hasLine_0 : decode cX5_hasLine 0 = .ok (.iload_n 1, 1) := by decide +kernel
theorem dX5_hasLine_1 : decode cX5_hasLine 1 = .ok (.ifCond .lt 15, 3) := by decide +kernel
theorem dX5_hasLine_4 : decode cX5_hasLine 4 = .ok (.iload_n 1, 1) := by decide +kernel
theorem dX5_hasLine_5 : decode cX5_hasLine 5 = .ok (.aload_n 0, 1) := by decide +kernel
theorem dX5_hasLine_6 : decode cX5_hasLine 6 = .ok (.getfield 40, 3) := by decide +kernel
theorem dX5_hasLine_9 : decode cX5_hasLine 9 = .ok (.if_icmp .ge 7, 3) := by decide +kernel
theorem dX5_hasLine_12 : decode cX5_hasLine 12 = .ok (.iconst 1, 1) := by decide +kernel
theorem dX5_hasLine_13 : decode cX5_hasLine 13 = .ok (.goto 4, 3) := by decide +kernel
theorem dX5_hasLine_16 : decode cX5_hasLine 16 = .ok (.iconst 0, 1) := by decide +kernel
theorem dX5_hasLine_17 : decode cX5_hasLine 17 = .ok (.ireturn, 1) := by decide +kernel
theorem dX5_has_0 : decode cX5_has 0 = .ok (.aload_n 0, 1) := by decide +kernel
theorem dX5_has_1 : decode cX5_has 1 = .ok (.iload_n 2, 1) := by decide +kernel
theorem dX5_has_2 : decode cX5_has 2 = .ok (.invokevirtual 80, 3) := by decide +kernel
theorem dX5_has_5 : decode cX5_has 5 = .ok (.ifCond .eq 15, 3) := by decide +kernel
theorem dX5_has_8 : decode cX5_has 8 = .ok (.iload_n 1, 1) := by decide +kernel
theorem dX5_has_9 : decode cX5_has 9 = .ok (.iload_n 2, 1) := by decide +kernel
theorem dX5_has_10 : decode cX5_has 10 = .ok (.ishr, 1) := by decide +kernel
theorem dX5_has_11 : decode cX5_has 11 = .ok (.iconst 1, 1) := by decide +kernel
theorem dX5_has_12 : decode cX5_has 12 = .ok (.iand, 1) := by decide +kernel
theorem dX5_has_13 : decode cX5_has 13 = .ok (.ifCond .eq 7, 3) := by decide +kernel
theorem dX5_has_16 : decode cX5_has 16 = .ok (.iconst 1, 1) := by decide +kernel
theorem dX5_has_17 : decode cX5_has 17 = .ok (.goto 4, 3) := by decide +kernel
theorem dX5_has_20 : decode cX5_has 20 = .ok (.iconst 0, 1) := by decide +kernel
theorem dX5_has_21 : decode cX5_has 21 = .ok (.ireturn, 1) := by decide +kernel
theorem dX5_areJoined_0 : decode cX5_areJoined 0 = .ok (.aload_n 0, 1) := by decide +kernel
theorem dX5_areJoined_1 : decode cX5_areJoined 1 = .ok (.iload_n 2, 1) := by decide +kernel
theorem dX5_areJoined_2 : decode cX5_areJoined 2 = .ok (.iload_n 3, 1) := by decide +kernel
theorem dX5_areJoined_3 : decode cX5_areJoined 3 = .ok (.invokevirtual 83, 3) := by decide +kernel
theorem dX5_areJoined_6 : decode cX5_areJoined 6 = .ok (.ifCond .ne 17, 3) := by decide +kernel
theorem dX5_areJoined_9 : decode cX5_areJoined 9 = .ok (.aload_n 0, 1) := by decide +kernel
theorem dX5_areJoined_10 : decode cX5_areJoined 10 = .ok (.iload_n 1, 1) := by decide +kernel
theorem dX5_areJoined_11 : decode cX5_areJoined 11 = .ok (.aload_n 0, 1) := by decide +kernel
theorem dX5_areJoined_12 : decode cX5_areJoined 12 = .ok (.iload_n 2, 1) := by decide +kernel
theorem dX5_areJoined_13 : decode cX5_areJoined 13 = .ok (.iload_n 3, 1) := by decide +kernel
theorem dX5_areJoined_14 : decode cX5_areJoined 14 = .ok (.invokevirtual 87, 3) := by decide +kernel
theorem dX5_areJoined_17 : decode cX5_areJoined 17 = .ok (.invokevirtual 91, 3) := by decide +kernel
theorem dX5_areJoined_20 : decode cX5_areJoined 20 = .ok (.ifCond .eq 7, 3) := by decide +kernel
theorem dX5_areJoined_23 : decode cX5_areJoined 23 = .ok (.iconst 1, 1) := by decide +kernel
theorem dX5_areJoined_24 : decode cX5_areJoined 24 = .ok (.goto 4, 3) := by decide +kernel
theorem dX5_areJoined_27 : decode cX5_areJoined 27 = .ok (.iconst 0, 1) := by decide +kernel
theorem dX5_areJoined_28 : decode cX5_areJoined 28 = .ok (.ireturn, 1) := by decide +kernel
theorem dX5_ahead_0 : decode cX5_ahead 0 = .ok (.iload_n 2, 1) := by decide +kernel
theorem dX5_ahead_1 : decode cX5_ahead 1 = .ok (.iload_n 1, 1) := by decide +kernel
theorem dX5_ahead_2 : decode cX5_ahead 2 = .ok (.if_icmp .lt 9, 3) := by decide +kernel
theorem dX5_ahead_5 : decode cX5_ahead 5 = .ok (.iload_n 2, 1) := by decide +kernel
theorem dX5_ahead_6 : decode cX5_ahead 6 = .ok (.iload_n 1, 1) := by decide +kernel
theorem dX5_ahead_7 : decode cX5_ahead 7 = .ok (.isub, 1) := by decide +kernel
theorem dX5_ahead_8 : decode cX5_ahead 8 = .ok (.goto 11, 3) := by decide +kernel
theorem dX5_ahead_11 : decode cX5_ahead 11 = .ok (.iload_n 2, 1) := by decide +kernel
theorem dX5_ahead_12 : decode cX5_ahead 12 = .ok (.iload_n 1, 1) := by decide +kernel
theorem dX5_ahead_13 : decode cX5_ahead 13 = .ok (.isub, 1) := by decide +kernel
theorem dX5_ahead_14 : decode cX5_ahead 14 = .ok (.aload_n 0, 1) := by decide +kernel
theorem dX5_ahead_15 : decode cX5_ahead 15 = .ok (.getfield 30, 3) := by decide +kernel
theorem dX5_ahead_18 : decode cX5_ahead 18 = .ok (.iadd, 1) := by decide +kernel
theorem dX5_ahead_19 : decode cX5_ahead 19 = .ok (.ireturn, 1) := by decide +kernel
theorem dX5_trianglesAt_0 : decode cX5_trianglesAt 0 = .ok (.aload_n 0, 1) := by decide +kernel
theorem dX5_trianglesAt_1 : decode cX5_trianglesAt 1 = .ok (.iload_n 2, 1) := by decide +kernel
theorem dX5_trianglesAt_2 : decode cX5_trianglesAt 2 = .ok (.invokevirtual 77, 3) := by decide +kernel
theorem dX5_trianglesAt_5 : decode cX5_trianglesAt 5 = .ok (.ifCond .eq 19, 3) := by decide +kernel
theorem dX5_trianglesAt_8 : decode cX5_trianglesAt 8 = .ok (.iconst 1, 1) := by decide +kernel
theorem dX5_trianglesAt_9 : decode cX5_trianglesAt 9 = .ok (.iload_n 1, 1) := by decide +kernel
theorem dX5_trianglesAt_10 : decode cX5_trianglesAt 10 = .ok (.aload_n 0, 1) := by decide +kernel
theorem dX5_trianglesAt_11 : decode cX5_trianglesAt 11 = .ok (.getfield 24, 3) := by decide +kernel
theorem dX5_trianglesAt_14 : decode cX5_trianglesAt 14 = .ok (.iload_n 2, 1) := by decide +kernel
theorem dX5_trianglesAt_15 : decode cX5_trianglesAt 15 = .ok (.iaload, 1) := by decide +kernel
theorem dX5_trianglesAt_16 : decode cX5_trianglesAt 16 = .ok (.iand, 1) := by decide +kernel
theorem dX5_trianglesAt_17 : decode cX5_trianglesAt 17 = .ok (.invokestatic 59, 3) := by decide +kernel
theorem dX5_trianglesAt_20 : decode cX5_trianglesAt 20 = .ok (.iadd, 1) := by decide +kernel
theorem dX5_trianglesAt_21 : decode cX5_trianglesAt 21 = .ok (.goto 4, 3) := by decide +kernel
theorem dX5_trianglesAt_24 : decode cX5_trianglesAt 24 = .ok (.iconst 0, 1) := by decide +kernel
theorem dX5_trianglesAt_25 : decode cX5_trianglesAt 25 = .ok (.ireturn, 1) := by decide +kernel
theorem dX5_entryOf_0 : decode cX5_entryOf 0 = .ok (.iload_n 2, 1) := by decide +kernel
theorem dX5_entryOf_1 : decode cX5_entryOf 1 = .ok (.iload_n 3, 1) := by decide +kernel
theorem dX5_entryOf_2 : decode cX5_entryOf 2 = .ok (.if_icmp .ne 5, 3) := by decide +kernel
theorem dX5_entryOf_5 : decode cX5_entryOf 5 = .ok (.iconst 0, 1) := by decide +kernel
theorem dX5_entryOf_6 : decode cX5_entryOf 6 = .ok (.ireturn, 1) := by decide +kernel
theorem dX5_entryOf_7 : decode cX5_entryOf 7 = .ok (.iconst 0, 1) := by decide +kernel
theorem dX5_entryOf_8 : decode cX5_entryOf 8 = .ok (.istore 4, 2) := by decide +kernel
theorem dX5_entryOf_10 : decode cX5_entryOf 10 = .ok (.iconst 1, 1) := by decide +kernel
theorem dX5_entryOf_11 : decode cX5_entryOf 11 = .ok (.istore 5, 2) := by decide +kernel
theorem dX5_entryOf_13 : decode cX5_entryOf 13 = .ok (.iload_n 2, 1) := by decide +kernel
theorem dX5_entryOf_14 : decode cX5_entryOf 14 = .ok (.iload_n 3, 1) := by decide +kernel
theorem dX5_entryOf_15 : decode cX5_entryOf 15 = .ok (.invokestatic 94, 3) := by decide +kernel
theorem dX5_entryOf_18 : decode cX5_entryOf 18 = .ok (.iconst 1, 1) := by decide +kernel
theorem dX5_entryOf_19 : decode cX5_entryOf 19 = .ok (.iadd, 1) := by decide +kernel
theorem dX5_entryOf_20 : decode cX5_entryOf 20 = .ok (.istore 6, 2) := by decide +kernel
theorem dX5_entryOf_22 : decode cX5_entryOf 22 = .ok (.iload 6, 2) := by decide +kernel
theorem dX5_entryOf_24 : decode cX5_entryOf 24 = .ok (.iload_n 2, 1) := by decide +kernel
theorem dX5_entryOf_25 : decode cX5_entryOf 25 = .ok (.iload_n 3, 1) := by decide +kernel
theorem dX5_entryOf_26 : decode cX5_entryOf 26 = .ok (.invokestatic 97, 3) := by decide +kernel
theorem dX5_entryOf_29 : decode cX5_entryOf 29 = .ok (.if_icmp .ge 32, 3) := by decide +kernel
theorem dX5_entryOf_32 : decode cX5_entryOf 32 = .ok (.aload_n 0, 1) := by decide +kernel
theorem dX5_entryOf_33 : decode cX5_entryOf 33 = .ok (.iload_n 1, 1) := by decide +kernel
theorem dX5_entryOf_34 : decode cX5_entryOf 34 = .ok (.iload 6, 2) := by decide +kernel
theorem dX5_entryOf_36 : decode cX5_entryOf 36 = .ok (.invokevirtual 100, 3) := by decide +kernel
theorem dX5_entryOf_39 : decode cX5_entryOf 39 = .ok (.iload 5, 2) := by decide +kernel
theorem dX5_entryOf_41 : decode cX5_entryOf 41 = .ok (.imul, 1) := by decide +kernel
theorem dX5_entryOf_42 : decode cX5_entryOf 42 = .ok (.iload 4, 2) := by decide +kernel
theorem dX5_entryOf_44 : decode cX5_entryOf 44 = .ok (.isub, 1) := by decide +kernel
theorem dX5_entryOf_45 : decode cX5_entryOf 45 = .ok (.istore 7, 2) := by decide +kernel
theorem dX5_entryOf_47 : decode cX5_entryOf 47 = .ok (.iload 5, 2) := by decide +kernel
theorem dX5_entryOf_49 : decode cX5_entryOf 49 = .ok (.istore 4, 2) := by decide +kernel
theorem dX5_entryOf_51 : decode cX5_entryOf 51 = .ok (.iload 7, 2) := by decide +kernel
theorem dX5_entryOf_53 : decode cX5_entryOf 53 = .ok (.istore 5, 2) := by decide +kernel
theorem dX5_entryOf_55 : decode cX5_entryOf 55 = .ok (.iinc 6 1, 3) := by decide +kernel
theorem dX5_entryOf_58 : decode cX5_entryOf 58 = .ok (.goto (-36), 3) := by decide +kernel
theorem dX5_entryOf_61 : decode cX5_entryOf 61 = .ok (.iload 5, 2) := by decide +kernel
theorem dX5_entryOf_63 : decode cX5_entryOf 63 = .ok (.ireturn, 1) := by decide +kernel
theorem dX5_otherLine_0 : decode cX5_otherLine 0 = .ok (.iconst 0, 1) := by decide +kernel
theorem dX5_otherLine_1 : decode cX5_otherLine 1 = .ok (.istore_n 3, 1) := by decide +kernel
theorem dX5_otherLine_2 : decode cX5_otherLine 2 = .ok (.iload_n 3, 1) := by decide +kernel
theorem dX5_otherLine_3 : decode cX5_otherLine 3 = .ok (.aload_n 0, 1) := by decide +kernel
theorem dX5_otherLine_4 : decode cX5_otherLine 4 = .ok (.getfield 40, 3) := by decide +kernel
theorem dX5_otherLine_7 : decode cX5_otherLine 7 = .ok (.if_icmp .ge 25, 3) := by decide +kernel
theorem dX5_otherLine_10 : decode cX5_otherLine 10 = .ok (.aload_n 0, 1) := by decide +kernel
theorem dX5_otherLine_11 : decode cX5_otherLine 11 = .ok (.getfield 21, 3) := by decide +kernel
theorem dX5_otherLine_14 : decode cX5_otherLine 14 = .ok (.iload_n 3, 1) := by decide +kernel
theorem dX5_otherLine_15 : decode cX5_otherLine 15 = .ok (.iaload, 1) := by decide +kernel
theorem dX5_otherLine_16 : decode cX5_otherLine 16 = .ok (.iload_n 1, 1) := by decide +kernel
theorem dX5_otherLine_17 : decode cX5_otherLine 17 = .ok (.iand, 1) := by decide +kernel
theorem dX5_otherLine_18 : decode cX5_otherLine 18 = .ok (.iconst 1, 1) := by decide +kernel
theorem dX5_otherLine_19 : decode cX5_otherLine 19 = .ok (.iload_n 2, 1) := by decide +kernel
theorem dX5_otherLine_20 : decode cX5_otherLine 20 = .ok (.ishl, 1) := by decide +kernel
theorem dX5_otherLine_21 : decode cX5_otherLine 21 = .ok (.if_icmp .ne 5, 3) := by decide +kernel
theorem dX5_otherLine_24 : decode cX5_otherLine 24 = .ok (.iload_n 3, 1) := by decide +kernel
theorem dX5_otherLine_25 : decode cX5_otherLine 25 = .ok (.ireturn, 1) := by decide +kernel
theorem dX5_otherLine_26 : decode cX5_otherLine 26 = .ok (.iinc 3 1, 3) := by decide +kernel
theorem dX5_otherLine_29 : decode cX5_otherLine 29 = .ok (.goto (-27), 3) := by decide +kernel
theorem dX5_otherLine_32 : decode cX5_otherLine 32 = .ok (.iconst (-1), 1) := by decide +kernel
theorem dX5_otherLine_33 : decode cX5_otherLine 33 = .ok (.ireturn, 1) := by decide +kernel
theorem dX5_neighbourWith_0 : decode cX5_neighbourWith 0 = .ok (.aload_n 0, 1) := by decide +kernel
theorem dX5_neighbourWith_1 : decode cX5_neighbourWith 1 = .ok (.iload_n 2, 1) := by decide +kernel
theorem dX5_neighbourWith_2 : decode cX5_neighbourWith 2 = .ok (.invokevirtual 103, 3) := by decide +kernel
theorem dX5_neighbourWith_5 : decode cX5_neighbourWith 5 = .ok (.iload_n 1, 1) := by decide +kernel
theorem dX5_neighbourWith_6 : decode cX5_neighbourWith 6 = .ok (.iand, 1) := by decide +kernel
theorem dX5_neighbourWith_7 : decode cX5_neighbourWith 7 = .ok (.istore_n 3, 1) := by decide +kernel
theorem dX5_neighbourWith_8 : decode cX5_neighbourWith 8 = .ok (.iload_n 3, 1) := by decide +kernel
theorem dX5_neighbourWith_9 : decode cX5_neighbourWith 9 = .ok (.invokestatic 59, 3) := by decide +kernel
theorem dX5_neighbourWith_12 : decode cX5_neighbourWith 12 = .ok (.iconst 1, 1) := by decide +kernel
theorem dX5_neighbourWith_13 : decode cX5_neighbourWith 13 = .ok (.if_icmp .ne 17, 3) := by decide +kernel
theorem dX5_neighbourWith_16 : decode cX5_neighbourWith 16 = .ok (.aload_n 0, 1) := by decide +kernel
theorem dX5_neighbourWith_17 : decode cX5_neighbourWith 17 = .ok (.iload_n 1, 1) := by decide +kernel
theorem dX5_neighbourWith_18 : decode cX5_neighbourWith 18 = .ok (.iload_n 3, 1) := by decide +kernel
theorem dX5_neighbourWith_19 : decode cX5_neighbourWith 19 = .ok (.ixor, 1) := by decide +kernel
theorem dX5_neighbourWith_20 : decode cX5_neighbourWith 20 = .ok (.iconst 1, 1) := by decide +kernel
theorem dX5_neighbourWith_21 : decode cX5_neighbourWith 21 = .ok (.iload_n 2, 1) := by decide +kernel
theorem dX5_neighbourWith_22 : decode cX5_neighbourWith 22 = .ok (.ishl, 1) := by decide +kernel
theorem dX5_neighbourWith_23 : decode cX5_neighbourWith 23 = .ok (.ior, 1) := by decide +kernel
theorem dX5_neighbourWith_24 : decode cX5_neighbourWith 24 = .ok (.invokevirtual 106, 3) := by decide +kernel
theorem dX5_neighbourWith_27 : decode cX5_neighbourWith 27 = .ok (.goto 4, 3) := by decide +kernel
theorem dX5_neighbourWith_30 : decode cX5_neighbourWith 30 = .ok (.iconst (-1), 1) := by decide +kernel
theorem dX5_neighbourWith_31 : decode cX5_neighbourWith 31 = .ok (.ireturn, 1) := by decide +kernel
theorem dX5_moved_0 : decode cX5_moved 0 = .ok (.iconst 0, 1) := by decide +kernel
theorem dX5_moved_1 : decode cX5_moved 1 = .ok (.istore_n 3, 1) := by decide +kernel
theorem dX5_moved_2 : decode cX5_moved 2 = .ok (.iconst 0, 1) := by decide +kernel
theorem dX5_moved_3 : decode cX5_moved 3 = .ok (.istore 4, 2) := by decide +kernel
theorem dX5_moved_5 : decode cX5_moved 5 = .ok (.iload 4, 2) := by decide +kernel
theorem dX5_moved_7 : decode cX5_moved 7 = .ok (.aload_n 0, 1) := by decide +kernel
theorem dX5_moved_8 : decode cX5_moved 8 = .ok (.getfield 40, 3) := by decide +kernel
theorem dX5_moved_11 : decode cX5_moved 11 = .ok (.if_icmp .ge 60, 3) := by decide +kernel
theorem dX5_moved_14 : decode cX5_moved 14 = .ok (.aload_n 0, 1) := by decide +kernel
theorem dX5_moved_15 : decode cX5_moved 15 = .ok (.iload_n 1, 1) := by decide +kernel
theorem dX5_moved_16 : decode cX5_moved 16 = .ok (.iload 4, 2) := by decide +kernel
theorem dX5_moved_18 : decode cX5_moved 18 = .ok (.invokevirtual 91, 3) := by decide +kernel
theorem dX5_moved_21 : decode cX5_moved 21 = .ok (.ifCond .eq 44, 3) := by decide +kernel
theorem dX5_moved_24 : decode cX5_moved 24 = .ok (.aload_n 0, 1) := by decide +kernel
theorem dX5_moved_25 : decode cX5_moved 25 = .ok (.aload_n 0, 1) := by decide +kernel
theorem dX5_moved_26 : decode cX5_moved 26 = .ok (.getfield 9, 3) := by decide +kernel
theorem dX5_moved_29 : decode cX5_moved 29 = .ok (.iload 4, 2) := by decide +kernel
theorem dX5_moved_31 : decode cX5_moved 31 = .ok (.iaload, 1) := by decide +kernel
theorem dX5_moved_32 : decode cX5_moved 32 = .ok (.iload_n 2, 1) := by decide +kernel
theorem dX5_moved_33 : decode cX5_moved 33 = .ok (.invokevirtual 109, 3) := by decide +kernel
theorem dX5_moved_36 : decode cX5_moved 36 = .ok (.istore 5, 2) := by decide +kernel
theorem dX5_moved_38 : decode cX5_moved 38 = .ok (.aload_n 0, 1) := by decide +kernel
theorem dX5_moved_39 : decode cX5_moved 39 = .ok (.aload_n 0, 1) := by decide +kernel
theorem dX5_moved_40 : decode cX5_moved 40 = .ok (.getfield 15, 3) := by decide +kernel
theorem dX5_moved_43 : decode cX5_moved 43 = .ok (.iload 4, 2) := by decide +kernel
theorem dX5_moved_45 : decode cX5_moved 45 = .ok (.iaload, 1) := by decide +kernel
theorem dX5_moved_46 : decode cX5_moved 46 = .ok (.iload_n 2, 1) := by decide +kernel
theorem dX5_moved_47 : decode cX5_moved 47 = .ok (.invokevirtual 109, 3) := by decide +kernel
theorem dX5_moved_50 : decode cX5_moved 50 = .ok (.istore 6, 2) := by decide +kernel
theorem dX5_moved_52 : decode cX5_moved 52 = .ok (.iload_n 3, 1) := by decide +kernel
theorem dX5_moved_53 : decode cX5_moved 53 = .ok (.iconst 1, 1) := by decide +kernel
theorem dX5_moved_54 : decode cX5_moved 54 = .ok (.aload_n 0, 1) := by decide +kernel
theorem dX5_moved_55 : decode cX5_moved 55 = .ok (.iload 5, 2) := by decide +kernel
theorem dX5_moved_57 : decode cX5_moved 57 = .ok (.iload 6, 2) := by decide +kernel
theorem dX5_moved_59 : decode cX5_moved 59 = .ok (.invokevirtual 87, 3) := by decide +kernel
theorem dX5_moved_62 : decode cX5_moved 62 = .ok (.ishl, 1) := by decide +kernel
theorem dX5_moved_63 : decode cX5_moved 63 = .ok (.ior, 1) := by decide +kernel
theorem dX5_moved_64 : decode cX5_moved 64 = .ok (.istore_n 3, 1) := by decide +kernel
theorem dX5_moved_65 : decode cX5_moved 65 = .ok (.iinc 4 1, 3) := by decide +kernel
theorem dX5_moved_68 : decode cX5_moved 68 = .ok (.goto (-63), 3) := by decide +kernel
theorem dX5_moved_71 : decode cX5_moved 71 = .ok (.iload_n 3, 1) := by decide +kernel
theorem dX5_moved_72 : decode cX5_moved 72 = .ok (.ireturn, 1) := by decide +kernel
theorem dX5_movedCorner_0 : decode cX5_movedCorner 0 = .ok (.iload_n 2, 1) := by decide +kernel
theorem dX5_movedCorner_1 : decode cX5_movedCorner 1 = .ok (.ifCond .eq 12, 3) := by decide +kernel
theorem dX5_movedCorner_4 : decode cX5_movedCorner 4 = .ok (.aload_n 0, 1) := by decide +kernel
theorem dX5_movedCorner_5 : decode cX5_movedCorner 5 = .ok (.getfield 30, 3) := by decide +kernel
theorem dX5_movedCorner_8 : decode cX5_movedCorner 8 = .ok (.iconst 1, 1) := by decide +kernel
theorem dX5_movedCorner_9 : decode cX5_movedCorner 9 = .ok (.isub, 1) := by decide +kernel
theorem dX5_movedCorner_10 : decode cX5_movedCorner 10 = .ok (.iload_n 1, 1) := by decide +kernel
theorem dX5_movedCorner_11 : decode cX5_movedCorner 11 = .ok (.isub, 1) := by decide +kernel
theorem dX5_movedCorner_12 : decode cX5_movedCorner 12 = .ok (.ireturn, 1) := by decide +kernel
theorem dX5_movedCorner_13 : decode cX5_movedCorner 13 = .ok (.iload_n 1, 1) := by decide +kernel
theorem dX5_movedCorner_14 : decode cX5_movedCorner 14 = .ok (.iconst 1, 1) := by decide +kernel
theorem dX5_movedCorner_15 : decode cX5_movedCorner 15 = .ok (.iadd, 1) := by decide +kernel
theorem dX5_movedCorner_16 : decode cX5_movedCorner 16 = .ok (.aload_n 0, 1) := by decide +kernel
theorem dX5_movedCorner_17 : decode cX5_movedCorner 17 = .ok (.getfield 30, 3) := by decide +kernel
theorem dX5_movedCorner_20 : decode cX5_movedCorner 20 = .ok (.if_icmp .ne 7, 3) := by decide +kernel
theorem dX5_movedCorner_23 : decode cX5_movedCorner 23 = .ok (.iconst 0, 1) := by decide +kernel
theorem dX5_movedCorner_24 : decode cX5_movedCorner 24 = .ok (.goto 6, 3) := by decide +kernel
theorem dX5_movedCorner_27 : decode cX5_movedCorner 27 = .ok (.iload_n 1, 1) := by decide +kernel
theorem dX5_movedCorner_28 : decode cX5_movedCorner 28 = .ok (.iconst 1, 1) := by decide +kernel
theorem dX5_movedCorner_29 : decode cX5_movedCorner 29 = .ok (.iadd, 1) := by decide +kernel
theorem dX5_movedCorner_30 : decode cX5_movedCorner 30 = .ok (.ireturn, 1) := by decide +kernel
theorem dX5_leastTurned_0 : decode cX5_leastTurned 0 = .ok (.iload_n 1, 1) := by decide +kernel
theorem dX5_leastTurned_1 : decode cX5_leastTurned 1 = .ok (.istore_n 2, 1) := by decide +kernel
theorem dX5_leastTurned_2 : decode cX5_leastTurned 2 = .ok (.iload_n 1, 1) := by decide +kernel
theorem dX5_leastTurned_3 : decode cX5_leastTurned 3 = .ok (.istore_n 3, 1) := by decide +kernel
theorem dX5_leastTurned_4 : decode cX5_leastTurned 4 = .ok (.iconst 1, 1) := by decide +kernel
theorem dX5_leastTurned_5 : decode cX5_leastTurned 5 = .ok (.istore 4, 2) := by decide +kernel
theorem dX5_leastTurned_7 : decode cX5_leastTurned 7 = .ok (.iload 4, 2) := by decide +kernel
theorem dX5_leastTurned_9 : decode cX5_leastTurned 9 = .ok (.aload_n 0, 1) := by decide +kernel
theorem dX5_leastTurned_10 : decode cX5_leastTurned 10 = .ok (.getfield 30, 3) := by decide +kernel
theorem dX5_leastTurned_13 : decode cX5_leastTurned 13 = .ok (.if_icmp .ge 22, 3) := by decide +kernel
theorem dX5_leastTurned_16 : decode cX5_leastTurned 16 = .ok (.aload_n 0, 1) := by decide +kernel
theorem dX5_leastTurned_17 : decode cX5_leastTurned 17 = .ok (.iload_n 3, 1) := by decide +kernel
theorem dX5_leastTurned_18 : decode cX5_leastTurned 18 = .ok (.iconst 0, 1) := by decide +kernel
theorem dX5_leastTurned_19 : decode cX5_leastTurned 19 = .ok (.invokevirtual 113, 3) := by decide +kernel
theorem dX5_leastTurned_22 : decode cX5_leastTurned 22 = .ok (.istore_n 3, 1) := by decide +kernel
theorem dX5_leastTurned_23 : decode cX5_leastTurned 23 = .ok (.iload_n 2, 1) := by decide +kernel
theorem dX5_leastTurned_24 : decode cX5_leastTurned 24 = .ok (.iload_n 3, 1) := by decide +kernel
theorem dX5_leastTurned_25 : decode cX5_leastTurned 25 = .ok (.invokestatic 94, 3) := by decide +kernel
theorem dX5_leastTurned_28 : decode cX5_leastTurned 28 = .ok (.istore_n 2, 1) := by decide +kernel
theorem dX5_leastTurned_29 : decode cX5_leastTurned 29 = .ok (.iinc 4 1, 3) := by decide +kernel
theorem dX5_leastTurned_32 : decode cX5_leastTurned 32 = .ok (.goto (-25), 3) := by decide +kernel
theorem dX5_leastTurned_35 : decode cX5_leastTurned 35 = .ok (.iload_n 2, 1) := by decide +kernel
theorem dX5_leastTurned_36 : decode cX5_leastTurned 36 = .ok (.ireturn, 1) := by decide +kernel
theorem dX5_leastAlike_0 : decode cX5_leastAlike 0 = .ok (.aload_n 0, 1) := by decide +kernel
theorem dX5_leastAlike_1 : decode cX5_leastAlike 1 = .ok (.iload_n 1, 1) := by decide +kernel
theorem dX5_leastAlike_2 : decode cX5_leastAlike 2 = .ok (.invokevirtual 116, 3) := by decide +kernel
theorem dX5_leastAlike_5 : decode cX5_leastAlike 5 = .ok (.istore_n 3, 1) := by decide +kernel
theorem dX5_leastAlike_6 : decode cX5_leastAlike 6 = .ok (.iload_n 2, 1) := by decide +kernel
theorem dX5_leastAlike_7 : decode cX5_leastAlike 7 = .ok (.ifCond .eq 20, 3) := by decide +kernel
theorem dX5_leastAlike_10 : decode cX5_leastAlike 10 = .ok (.iload_n 3, 1) := by decide +kernel
theorem dX5_leastAlike_11 : decode cX5_leastAlike 11 = .ok (.aload_n 0, 1) := by decide +kernel
theorem dX5_leastAlike_12 : decode cX5_leastAlike 12 = .ok (.aload_n 0, 1) := by decide +kernel
theorem dX5_leastAlike_13 : decode cX5_leastAlike 13 = .ok (.iload_n 1, 1) := by decide +kernel
theorem dX5_leastAlike_14 : decode cX5_leastAlike 14 = .ok (.iconst 1, 1) := by decide +kernel
theorem dX5_leastAlike_15 : decode cX5_leastAlike 15 = .ok (.invokevirtual 113, 3) := by decide +kernel
theorem dX5_leastAlike_18 : decode cX5_leastAlike 18 = .ok (.invokevirtual 116, 3) := by decide +kernel
theorem dX5_leastAlike_21 : decode cX5_leastAlike 21 = .ok (.invokestatic 94, 3) := by decide +kernel
theorem dX5_leastAlike_24 : decode cX5_leastAlike 24 = .ok (.goto 4, 3) := by decide +kernel
theorem dX5_leastAlike_27 : decode cX5_leastAlike 27 = .ok (.iload_n 3, 1) := by decide +kernel
theorem dX5_leastAlike_28 : decode cX5_leastAlike 28 = .ok (.ireturn, 1) := by decide +kernel
theorem dX5_countKinds_0 : decode cX5_countKinds 0 = .ok (.iconst 0, 1) := by decide +kernel
theorem dX5_countKinds_1 : decode cX5_countKinds 1 = .ok (.istore_n 2, 1) := by decide +kernel
theorem dX5_countKinds_2 : decode cX5_countKinds 2 = .ok (.iconst 0, 1) := by decide +kernel
theorem dX5_countKinds_3 : decode cX5_countKinds 3 = .ok (.istore_n 3, 1) := by decide +kernel
theorem dX5_countKinds_4 : decode cX5_countKinds 4 = .ok (.iload_n 3, 1) := by decide +kernel
theorem dX5_countKinds_5 : decode cX5_countKinds 5 = .ok (.aload_n 0, 1) := by decide +kernel
theorem dX5_countKinds_6 : decode cX5_countKinds 6 = .ok (.getfield 65, 3) := by decide +kernel
theorem dX5_countKinds_9 : decode cX5_countKinds 9 = .ok (.if_icmp .ge 51, 3) := by decide +kernel
theorem dX5_countKinds_12 : decode cX5_countKinds 12 = .ok (.aload_n 0, 1) := by decide +kernel
theorem dX5_countKinds_13 : decode cX5_countKinds 13 = .ok (.getfield 27, 3) := by decide +kernel
theorem dX5_countKinds_16 : decode cX5_countKinds 16 = .ok (.iload_n 3, 1) := by decide +kernel
theorem dX5_countKinds_17 : decode cX5_countKinds 17 = .ok (.iaload, 1) := by decide +kernel
theorem dX5_countKinds_18 : decode cX5_countKinds 18 = .ok (.istore 4, 2) := by decide +kernel
theorem dX5_countKinds_20 : decode cX5_countKinds 20 = .ok (.aload_n 0, 1) := by decide +kernel
theorem dX5_countKinds_21 : decode cX5_countKinds 21 = .ok (.iload 4, 2) := by decide +kernel
theorem dX5_countKinds_23 : decode cX5_countKinds 23 = .ok (.iload 4, 2) := by decide +kernel
theorem dX5_countKinds_25 : decode cX5_countKinds 25 = .ok (.invokevirtual 119, 3) := by decide +kernel
theorem dX5_countKinds_28 : decode cX5_countKinds 28 = .ok (.ifCond .eq 26, 3) := by decide +kernel
theorem dX5_countKinds_31 : decode cX5_countKinds 31 = .ok (.iload_n 1, 1) := by decide +kernel
theorem dX5_countKinds_32 : decode cX5_countKinds 32 = .ok (.ifCond .eq 19, 3) := by decide +kernel
theorem dX5_countKinds_35 : decode cX5_countKinds 35 = .ok (.aload_n 0, 1) := by decide +kernel
theorem dX5_countKinds_36 : decode cX5_countKinds 36 = .ok (.aload_n 0, 1) := by decide +kernel
theorem dX5_countKinds_37 : decode cX5_countKinds 37 = .ok (.iload 4, 2) := by decide +kernel
theorem dX5_countKinds_39 : decode cX5_countKinds 39 = .ok (.iconst 1, 1) := by decide +kernel
theorem dX5_countKinds_40 : decode cX5_countKinds 40 = .ok (.invokevirtual 113, 3) := by decide +kernel
theorem dX5_countKinds_43 : decode cX5_countKinds 43 = .ok (.iload 4, 2) := by decide +kernel
theorem dX5_countKinds_45 : decode cX5_countKinds 45 = .ok (.invokevirtual 119, 3) := by decide +kernel
theorem dX5_countKinds_48 : decode cX5_countKinds 48 = .ok (.ifCond .eq 6, 3) := by decide +kernel
theorem dX5_countKinds_51 : decode cX5_countKinds 51 = .ok (.iinc 2 1, 3) := by decide +kernel
theorem dX5_countKinds_54 : decode cX5_countKinds 54 = .ok (.iinc 3 1, 3) := by decide +kernel
theorem dX5_countKinds_57 : decode cX5_countKinds 57 = .ok (.goto (-53), 3) := by decide +kernel
theorem dX5_countKinds_60 : decode cX5_countKinds 60 = .ok (.iload_n 2, 1) := by decide +kernel
theorem dX5_countKinds_61 : decode cX5_countKinds 61 = .ok (.ireturn, 1) := by decide +kernel
theorem dX5_neverTurnsBelow_0 : decode cX5_neverTurnsBelow 0 = .ok (.iload_n 1, 1) := by decide +kernel
theorem dX5_neverTurnsBelow_1 : decode cX5_neverTurnsBelow 1 = .ok (.istore_n 3, 1) := by decide +kernel
theorem dX5_neverTurnsBelow_2 : decode cX5_neverTurnsBelow 2 = .ok (.iconst 0, 1) := by decide +kernel
theorem dX5_neverTurnsBelow_3 : decode cX5_neverTurnsBelow 3 = .ok (.istore 4, 2) := by decide +kernel
theorem dX5_neverTurnsBelow_5 : decode cX5_neverTurnsBelow 5 = .ok (.iload 4, 2) := by decide +kernel
theorem dX5_neverTurnsBelow_7 : decode cX5_neverTurnsBelow 7 = .ok (.aload_n 0, 1) := by decide +kernel
theorem dX5_neverTurnsBelow_8 : decode cX5_neverTurnsBelow 8 = .ok (.getfield 30, 3) := by decide +kernel
theorem dX5_neverTurnsBelow_11 : decode cX5_neverTurnsBelow 11 = .ok (.if_icmp .ge 23, 3) := by decide +kernel
theorem dX5_neverTurnsBelow_14 : decode cX5_neverTurnsBelow 14 = .ok (.iload_n 3, 1) := by decide +kernel
theorem dX5_neverTurnsBelow_15 : decode cX5_neverTurnsBelow 15 = .ok (.iload_n 2, 1) := by decide +kernel
theorem dX5_neverTurnsBelow_16 : decode cX5_neverTurnsBelow 16 = .ok (.if_icmp .ge 5, 3) := by decide +kernel
theorem dX5_neverTurnsBelow_19 : decode cX5_neverTurnsBelow 19 = .ok (.iconst 0, 1) := by decide +kernel
theorem dX5_neverTurnsBelow_20 : decode cX5_neverTurnsBelow 20 = .ok (.ireturn, 1) := by decide +kernel
theorem dX5_neverTurnsBelow_21 : decode cX5_neverTurnsBelow 21 = .ok (.aload_n 0, 1) := by decide +kernel
theorem dX5_neverTurnsBelow_22 : decode cX5_neverTurnsBelow 22 = .ok (.iload_n 3, 1) := by decide +kernel
theorem dX5_neverTurnsBelow_23 : decode cX5_neverTurnsBelow 23 = .ok (.iconst 0, 1) := by decide +kernel
theorem dX5_neverTurnsBelow_24 : decode cX5_neverTurnsBelow 24 = .ok (.invokevirtual 113, 3) := by decide +kernel
theorem dX5_neverTurnsBelow_27 : decode cX5_neverTurnsBelow 27 = .ok (.istore_n 3, 1) := by decide +kernel
theorem dX5_neverTurnsBelow_28 : decode cX5_neverTurnsBelow 28 = .ok (.iinc 4 1, 3) := by decide +kernel
theorem dX5_neverTurnsBelow_31 : decode cX5_neverTurnsBelow 31 = .ok (.goto (-26), 3) := by decide +kernel
theorem dX5_neverTurnsBelow_34 : decode cX5_neverTurnsBelow 34 = .ok (.iconst 1, 1) := by decide +kernel
theorem dX5_neverTurnsBelow_35 : decode cX5_neverTurnsBelow 35 = .ok (.ireturn, 1) := by decide +kernel
theorem dX5_differenceFrom_0 : decode cX5_differenceFrom 0 = .ok (.iconst 0, 1) := by decide +kernel
theorem dX5_differenceFrom_1 : decode cX5_differenceFrom 1 = .ok (.istore_n 3, 1) := by decide +kernel
theorem dX5_differenceFrom_2 : decode cX5_differenceFrom 2 = .ok (.iconst 0, 1) := by decide +kernel
theorem dX5_differenceFrom_3 : decode cX5_differenceFrom 3 = .ok (.istore 4, 2) := by decide +kernel
theorem dX5_differenceFrom_5 : decode cX5_differenceFrom 5 = .ok (.iload 4, 2) := by decide +kernel
theorem dX5_differenceFrom_7 : decode cX5_differenceFrom 7 = .ok (.aload_n 0, 1) := by decide +kernel
theorem dX5_differenceFrom_8 : decode cX5_differenceFrom 8 = .ok (.getfield 30, 3) := by decide +kernel
theorem dX5_differenceFrom_11 : decode cX5_differenceFrom 11 = .ok (.if_icmp .ge 34, 3) := by decide +kernel
theorem dX5_differenceFrom_14 : decode cX5_differenceFrom 14 = .ok (.iload 4, 2) := by decide +kernel
theorem dX5_differenceFrom_16 : decode cX5_differenceFrom 16 = .ok (.aload_n 1, 1) := by decide +kernel
theorem dX5_differenceFrom_17 : decode cX5_differenceFrom 17 = .ok (.arraylength, 1) := by decide +kernel
theorem dX5_differenceFrom_18 : decode cX5_differenceFrom 18 = .ok (.if_icmp .ge 27, 3) := by decide +kernel
theorem dX5_differenceFrom_21 : decode cX5_differenceFrom 21 = .ok (.iload_n 3, 1) := by decide +kernel
theorem dX5_differenceFrom_22 : decode cX5_differenceFrom 22 = .ok (.aload_n 1, 1) := by decide +kernel
theorem dX5_differenceFrom_23 : decode cX5_differenceFrom 23 = .ok (.iload 4, 2) := by decide +kernel
theorem dX5_differenceFrom_25 : decode cX5_differenceFrom 25 = .ok (.iaload, 1) := by decide +kernel
theorem dX5_differenceFrom_26 : decode cX5_differenceFrom 26 = .ok (.aload_n 0, 1) := by decide +kernel
theorem dX5_differenceFrom_27 : decode cX5_differenceFrom 27 = .ok (.iload_n 2, 1) := by decide +kernel
theorem dX5_differenceFrom_28 : decode cX5_differenceFrom 28 = .ok (.iload 4, 2) := by decide +kernel
theorem dX5_differenceFrom_30 : decode cX5_differenceFrom 30 = .ok (.invokevirtual 100, 3) := by decide +kernel
theorem dX5_differenceFrom_33 : decode cX5_differenceFrom 33 = .ok (.isub, 1) := by decide +kernel
theorem dX5_differenceFrom_34 : decode cX5_differenceFrom 34 = .ok (.invokestatic 72, 3) := by decide +kernel
theorem dX5_differenceFrom_37 : decode cX5_differenceFrom 37 = .ok (.iadd, 1) := by decide +kernel
theorem dX5_differenceFrom_38 : decode cX5_differenceFrom 38 = .ok (.istore_n 3, 1) := by decide +kernel
theorem dX5_differenceFrom_39 : decode cX5_differenceFrom 39 = .ok (.iinc 4 1, 3) := by decide +kernel
theorem dX5_differenceFrom_42 : decode cX5_differenceFrom 42 = .ok (.goto (-37), 3) := by decide +kernel
theorem dX5_differenceFrom_45 : decode cX5_differenceFrom 45 = .ok (.iload_n 3, 1) := by decide +kernel
theorem dX5_differenceFrom_46 : decode cX5_differenceFrom 46 = .ok (.ireturn, 1) := by decide +kernel
theorem dX5_nearestTo_0 : decode cX5_nearestTo 0 = .ok (.iconst 0, 1) := by decide +kernel
theorem dX5_nearestTo_1 : decode cX5_nearestTo 1 = .ok (.istore_n 2, 1) := by decide +kernel
theorem dX5_nearestTo_2 : decode cX5_nearestTo 2 = .ok (.aload_n 0, 1) := by decide +kernel
theorem dX5_nearestTo_3 : decode cX5_nearestTo 3 = .ok (.aload_n 1, 1) := by decide +kernel
theorem dX5_nearestTo_4 : decode cX5_nearestTo 4 = .ok (.aload_n 0, 1) := by decide +kernel
theorem dX5_nearestTo_5 : decode cX5_nearestTo 5 = .ok (.iconst 0, 1) := by decide +kernel
theorem dX5_nearestTo_6 : decode cX5_nearestTo 6 = .ok (.invokevirtual 122, 3) := by decide +kernel
theorem dX5_nearestTo_9 : decode cX5_nearestTo 9 = .ok (.invokevirtual 125, 3) := by decide +kernel
theorem dX5_nearestTo_12 : decode cX5_nearestTo 12 = .ok (.istore_n 3, 1) := by decide +kernel
theorem dX5_nearestTo_13 : decode cX5_nearestTo 13 = .ok (.iconst 1, 1) := by decide +kernel
theorem dX5_nearestTo_14 : decode cX5_nearestTo 14 = .ok (.istore 4, 2) := by decide +kernel
theorem dX5_nearestTo_16 : decode cX5_nearestTo 16 = .ok (.iload 4, 2) := by decide +kernel
theorem dX5_nearestTo_18 : decode cX5_nearestTo 18 = .ok (.aload_n 0, 1) := by decide +kernel
theorem dX5_nearestTo_19 : decode cX5_nearestTo 19 = .ok (.getfield 65, 3) := by decide +kernel
theorem dX5_nearestTo_22 : decode cX5_nearestTo 22 = .ok (.if_icmp .ge 39, 3) := by decide +kernel
theorem dX5_nearestTo_25 : decode cX5_nearestTo 25 = .ok (.iload_n 3, 1) := by decide +kernel
theorem dX5_nearestTo_26 : decode cX5_nearestTo 26 = .ok (.ifCond .le 35, 3) := by decide +kernel
theorem dX5_nearestTo_29 : decode cX5_nearestTo 29 = .ok (.aload_n 0, 1) := by decide +kernel
theorem dX5_nearestTo_30 : decode cX5_nearestTo 30 = .ok (.aload_n 1, 1) := by decide +kernel
theorem dX5_nearestTo_31 : decode cX5_nearestTo 31 = .ok (.aload_n 0, 1) := by decide +kernel
theorem dX5_nearestTo_32 : decode cX5_nearestTo 32 = .ok (.getfield 27, 3) := by decide +kernel
theorem dX5_nearestTo_35 : decode cX5_nearestTo 35 = .ok (.iload 4, 2) := by decide +kernel
theorem dX5_nearestTo_37 : decode cX5_nearestTo 37 = .ok (.iaload, 1) := by decide +kernel
theorem dX5_nearestTo_38 : decode cX5_nearestTo 38 = .ok (.invokevirtual 125, 3) := by decide +kernel
theorem dX5_nearestTo_41 : decode cX5_nearestTo 41 = .ok (.istore 5, 2) := by decide +kernel
theorem dX5_nearestTo_43 : decode cX5_nearestTo 43 = .ok (.iload 5, 2) := by decide +kernel
theorem dX5_nearestTo_45 : decode cX5_nearestTo 45 = .ok (.iload_n 3, 1) := by decide +kernel
theorem dX5_nearestTo_46 : decode cX5_nearestTo 46 = .ok (.if_icmp .ge 9, 3) := by decide +kernel
theorem dX5_nearestTo_49 : decode cX5_nearestTo 49 = .ok (.iload 5, 2) := by decide +kernel
theorem dX5_nearestTo_51 : decode cX5_nearestTo 51 = .ok (.istore_n 3, 1) := by decide +kernel
theorem dX5_nearestTo_52 : decode cX5_nearestTo 52 = .ok (.iload 4, 2) := by decide +kernel
theorem dX5_nearestTo_54 : decode cX5_nearestTo 54 = .ok (.istore_n 2, 1) := by decide +kernel
theorem dX5_nearestTo_55 : decode cX5_nearestTo 55 = .ok (.iinc 4 1, 3) := by decide +kernel
theorem dX5_nearestTo_58 : decode cX5_nearestTo 58 = .ok (.goto (-42), 3) := by decide +kernel
theorem dX5_nearestTo_61 : decode cX5_nearestTo 61 = .ok (.iload_n 2, 1) := by decide +kernel
theorem dX5_nearestTo_62 : decode cX5_nearestTo 62 = .ok (.ireturn, 1) := by decide +kernel
theorem dX5_greatestIn_0 : decode cX5_greatestIn 0 = .ok (.iconst 0, 1) := by decide +kernel
theorem dX5_greatestIn_1 : decode cX5_greatestIn 1 = .ok (.istore_n 2, 1) := by decide +kernel
theorem dX5_greatestIn_2 : decode cX5_greatestIn 2 = .ok (.iconst 0, 1) := by decide +kernel
theorem dX5_greatestIn_3 : decode cX5_greatestIn 3 = .ok (.istore_n 3, 1) := by decide +kernel
theorem dX5_greatestIn_4 : decode cX5_greatestIn 4 = .ok (.iload_n 3, 1) := by decide +kernel
theorem dX5_greatestIn_5 : decode cX5_greatestIn 5 = .ok (.aload_n 0, 1) := by decide +kernel
theorem dX5_greatestIn_6 : decode cX5_greatestIn 6 = .ok (.getfield 30, 3) := by decide +kernel
theorem dX5_greatestIn_9 : decode cX5_greatestIn 9 = .ok (.if_icmp .ge 20, 3) := by decide +kernel
theorem dX5_greatestIn_12 : decode cX5_greatestIn 12 = .ok (.iload_n 2, 1) := by decide +kernel
theorem dX5_greatestIn_13 : decode cX5_greatestIn 13 = .ok (.aload_n 0, 1) := by decide +kernel
theorem dX5_greatestIn_14 : decode cX5_greatestIn 14 = .ok (.iload_n 1, 1) := by decide +kernel
theorem dX5_greatestIn_15 : decode cX5_greatestIn 15 = .ok (.iload_n 3, 1) := by decide +kernel
theorem dX5_greatestIn_16 : decode cX5_greatestIn 16 = .ok (.invokevirtual 129, 3) := by decide +kernel
theorem dX5_greatestIn_19 : decode cX5_greatestIn 19 = .ok (.invokestatic 97, 3) := by decide +kernel
theorem dX5_greatestIn_22 : decode cX5_greatestIn 22 = .ok (.istore_n 2, 1) := by decide +kernel
theorem dX5_greatestIn_23 : decode cX5_greatestIn 23 = .ok (.iinc 3 1, 3) := by decide +kernel
theorem dX5_greatestIn_26 : decode cX5_greatestIn 26 = .ok (.goto (-22), 3) := by decide +kernel
theorem dX5_greatestIn_29 : decode cX5_greatestIn 29 = .ok (.iload_n 2, 1) := by decide +kernel
theorem dX5_greatestIn_30 : decode cX5_greatestIn 30 = .ok (.ireturn, 1) := by decide +kernel
theorem dX5_greatestFrom_0 : decode cX5_greatestFrom 0 = .ok (.iconst 0, 1) := by decide +kernel
theorem dX5_greatestFrom_1 : decode cX5_greatestFrom 1 = .ok (.istore_n 3, 1) := by decide +kernel
theorem dX5_greatestFrom_2 : decode cX5_greatestFrom 2 = .ok (.iconst 0, 1) := by decide +kernel
theorem dX5_greatestFrom_3 : decode cX5_greatestFrom 3 = .ok (.istore 4, 2) := by decide +kernel
theorem dX5_greatestFrom_5 : decode cX5_greatestFrom 5 = .ok (.iconst 1, 1) := by decide +kernel
theorem dX5_greatestFrom_6 : decode cX5_greatestFrom 6 = .ok (.istore 5, 2) := by decide +kernel
theorem dX5_greatestFrom_8 : decode cX5_greatestFrom 8 = .ok (.iload_n 2, 1) := by decide +kernel
theorem dX5_greatestFrom_9 : decode cX5_greatestFrom 9 = .ok (.iconst 1, 1) := by decide +kernel
theorem dX5_greatestFrom_10 : decode cX5_greatestFrom 10 = .ok (.iadd, 1) := by decide +kernel
theorem dX5_greatestFrom_11 : decode cX5_greatestFrom 11 = .ok (.istore 6, 2) := by decide +kernel
theorem dX5_greatestFrom_13 : decode cX5_greatestFrom 13 = .ok (.iload 6, 2) := by decide +kernel
theorem dX5_greatestFrom_15 : decode cX5_greatestFrom 15 = .ok (.aload_n 0, 1) := by decide +kernel
theorem dX5_greatestFrom_16 : decode cX5_greatestFrom 16 = .ok (.getfield 30, 3) := by decide +kernel
theorem dX5_greatestFrom_19 : decode cX5_greatestFrom 19 = .ok (.if_icmp .ge 39, 3) := by decide +kernel
theorem dX5_greatestFrom_22 : decode cX5_greatestFrom 22 = .ok (.iload_n 3, 1) := by decide +kernel
theorem dX5_greatestFrom_23 : decode cX5_greatestFrom 23 = .ok (.iload 5, 2) := by decide +kernel
theorem dX5_greatestFrom_25 : decode cX5_greatestFrom 25 = .ok (.invokestatic 97, 3) := by decide +kernel
theorem dX5_greatestFrom_28 : decode cX5_greatestFrom 28 = .ok (.istore_n 3, 1) := by decide +kernel
theorem dX5_greatestFrom_29 : decode cX5_greatestFrom 29 = .ok (.aload_n 0, 1) := by decide +kernel
