theorem dX7_init_0 : decode cX7_init 0 = .ok (.aload_n 0, 1) := by decide +kernel
theorem dX7_init_1 : decode cX7_init 1 = .ok (.invokespecial 3, 3) := by decide +kernel
theorem dX7_init_4 : decode cX7_init 4 = .ok (.aload_n 0, 1) := by decide +kernel
theorem dX7_init_5 : decode cX7_init 5 = .ok (.bipush 20, 2) := by decide +kernel
theorem dX7_init_7 : decode cX7_init 7 = .ok (.newarray .int, 2) := by decide +kernel
theorem dX7_init_9 : decode cX7_init 9 = .ok (.putfield 11, 3) := by decide +kernel
theorem dX7_init_12 : decode cX7_init 12 = .ok (.aload_n 0, 1) := by decide +kernel
theorem dX7_init_13 : decode cX7_init 13 = .ok (.bipush 20, 2) := by decide +kernel
theorem dX7_init_15 : decode cX7_init 15 = .ok (.newarray .int, 2) := by decide +kernel
theorem dX7_init_17 : decode cX7_init 17 = .ok (.putfield 15, 3) := by decide +kernel
theorem dX7_init_20 : decode cX7_init 20 = .ok (.aload_n 0, 1) := by decide +kernel
theorem dX7_init_21 : decode cX7_init 21 = .ok (.bipush 20, 2) := by decide +kernel
theorem dX7_init_23 : decode cX7_init 23 = .ok (.newarray .int, 2) := by decide +kernel
theorem dX7_init_25 : decode cX7_init 25 = .ok (.putfield 18, 3) := by decide +kernel
theorem dX7_init_28 : decode cX7_init 28 = .ok (.aload_n 0, 1) := by decide +kernel
theorem dX7_init_29 : decode cX7_init 29 = .ok (.bipush 20, 2) := by decide +kernel
theorem dX7_init_31 : decode cX7_init 31 = .ok (.newarray .int, 2) := by decide +kernel
theorem dX7_init_33 : decode cX7_init 33 = .ok (.putfield 21, 3) := by decide +kernel
theorem dX7_init_36 : decode cX7_init 36 = .ok (.aload_n 0, 1) := by decide +kernel
theorem dX7_init_37 : decode cX7_init 37 = .ok (.bipush 20, 2) := by decide +kernel
theorem dX7_init_39 : decode cX7_init 39 = .ok (.newarray .int, 2) := by decide +kernel
theorem dX7_init_41 : decode cX7_init 41 = .ok (.putfield 24, 3) := by decide +kernel
theorem dX7_init_44 : decode cX7_init 44 = .ok (.aload_n 0, 1) := by decide +kernel
theorem dX7_init_45 : decode cX7_init 45 = .ok (.bipush 20, 2) := by decide +kernel
theorem dX7_init_47 : decode cX7_init 47 = .ok (.newarray .int, 2) := by decide +kernel
theorem dX7_init_49 : decode cX7_init 49 = .ok (.putfield 27, 3) := by decide +kernel
theorem dX7_init_52 : decode cX7_init 52 = .ok (.aload_n 0, 1) := by decide +kernel
theorem dX7_init_53 : decode cX7_init 53 = .ok (.bipush 20, 2) := by decide +kernel
theorem dX7_init_55 : decode cX7_init 55 = .ok (.newarray .int, 2) := by decide +kernel
theorem dX7_init_57 : decode cX7_init 57 = .ok (.putfield 30, 3) := by decide +kernel
theorem dX7_init_60 : decode cX7_init 60 = .ok (.aload_n 0, 1) := by decide +kernel
theorem dX7_init_61 : decode cX7_init 61 = .ok (.bipush 20, 2) := by decide +kernel
theorem dX7_init_63 : decode cX7_init 63 = .ok (.newarray .int, 2) := by decide +kernel
theorem dX7_init_65 : decode cX7_init 65 = .ok (.putfield 33, 3) := by decide +kernel
theorem dX7_init_68 : decode cX7_init 68 = .ok (.aload_n 0, 1) := by decide +kernel
theorem dX7_init_69 : decode cX7_init 69 = .ok (.bipush 20, 2) := by decide +kernel
theorem dX7_init_71 : decode cX7_init 71 = .ok (.newarray .int, 2) := by decide +kernel
theorem dX7_init_73 : decode cX7_init 73 = .ok (.putfield 36, 3) := by decide +kernel
theorem dX7_init_76 : decode cX7_init 76 = .ok (.return_, 1) := by decide +kernel
theorem dX7_size_0 : decode cX7_size 0 = .ok (.aload_n 0, 1) := by decide +kernel
theorem dX7_size_1 : decode cX7_size 1 = .ok (.getfield 39, 3) := by decide +kernel
theorem dX7_size_4 : decode cX7_size 4 = .ok (.ireturn, 1) := by decide +kernel
theorem dX7_rights_0 : decode cX7_rights 0 = .ok (.aload_n 0, 1) := by decide +kernel
theorem dX7_rights_1 : decode cX7_rights 1 = .ok (.getfield 43, 3) := by decide +kernel
theorem dX7_rights_4 : decode cX7_rights 4 = .ok (.ireturn, 1) := by decide +kernel
theorem dX7_has_0 : decode cX7_has 0 = .ok (.iload_n 1, 1) := by decide +kernel
theorem dX7_has_1 : decode cX7_has 1 = .ok (.ifCond .lt 15, 3) := by decide +kernel
theorem dX7_has_4 : decode cX7_has 4 = .ok (.iload_n 1, 1) := by decide +kernel
theorem dX7_has_5 : decode cX7_has 5 = .ok (.aload_n 0, 1) := by decide +kernel
theorem dX7_has_6 : decode cX7_has 6 = .ok (.getfield 39, 3) := by decide +kernel
theorem dX7_has_9 : decode cX7_has 9 = .ok (.if_icmp .ge 7, 3) := by decide +kernel
theorem dX7_has_12 : decode cX7_has 12 = .ok (.iconst 1, 1) := by decide +kernel
theorem dX7_has_13 : decode cX7_has 13 = .ok (.goto 4, 3) := by decide +kernel
theorem dX7_has_16 : decode cX7_has 16 = .ok (.iconst 0, 1) := by decide +kernel
theorem dX7_has_17 : decode cX7_has 17 = .ok (.ireturn, 1) := by decide +kernel
theorem dX7_wasSeenBefore_0 : decode cX7_wasSeenBefore 0 = .ok (.aload_n 0, 1) := by decide +kernel
theorem dX7_wasSeenBefore_1 : decode cX7_wasSeenBefore 1 = .ok (.iload_n 2, 1) := by decide +kernel
theorem dX7_wasSeenBefore_2 : decode cX7_wasSeenBefore 2 = .ok (.invokevirtual 46, 3) := by decide +kernel
theorem dX7_wasSeenBefore_5 : decode cX7_wasSeenBefore 5 = .ok (.ifCond .eq 17, 3) := by decide +kernel
theorem dX7_wasSeenBefore_8 : decode cX7_wasSeenBefore 8 = .ok (.aload_n 0, 1) := by decide +kernel
theorem dX7_wasSeenBefore_9 : decode cX7_wasSeenBefore 9 = .ok (.getfield 11, 3) := by decide +kernel
theorem dX7_wasSeenBefore_12 : decode cX7_wasSeenBefore 12 = .ok (.iload_n 2, 1) := by decide +kernel
theorem dX7_wasSeenBefore_13 : decode cX7_wasSeenBefore 13 = .ok (.iaload, 1) := by decide +kernel
theorem dX7_wasSeenBefore_14 : decode cX7_wasSeenBefore 14 = .ok (.iload_n 1, 1) := by decide +kernel
theorem dX7_wasSeenBefore_15 : decode cX7_wasSeenBefore 15 = .ok (.if_icmp .ge 7, 3) := by decide +kernel
theorem dX7_wasSeenBefore_18 : decode cX7_wasSeenBefore 18 = .ok (.iconst 1, 1) := by decide +kernel
theorem dX7_wasSeenBefore_19 : decode cX7_wasSeenBefore 19 = .ok (.goto 4, 3) := by decide +kernel
theorem dX7_wasSeenBefore_22 : decode cX7_wasSeenBefore 22 = .ok (.iconst 0, 1) := by decide +kernel
theorem dX7_wasSeenBefore_23 : decode cX7_wasSeenBefore 23 = .ok (.ireturn, 1) := by decide +kernel
theorem dX7_canTell_0 : decode cX7_canTell 0 = .ok (.iload_n 1, 1) := by decide +kernel
theorem dX7_canTell_1 : decode cX7_canTell 1 = .ok (.aload_n 0, 1) := by decide +kernel
theorem dX7_canTell_2 : decode cX7_canTell 2 = .ok (.getfield 50, 3) := by decide +kernel
theorem dX7_canTell_5 : decode cX7_canTell 5 = .ok (.if_icmp .lt 14, 3) := by decide +kernel
theorem dX7_canTell_8 : decode cX7_canTell 8 = .ok (.iload_n 1, 1) := by decide +kernel
theorem dX7_canTell_9 : decode cX7_canTell 9 = .ok (.sipush 999, 3) := by decide +kernel
theorem dX7_canTell_12 : decode cX7_canTell 12 = .ok (.if_icmp .gt 7, 3) := by decide +kernel
theorem dX7_canTell_15 : decode cX7_canTell 15 = .ok (.iconst 1, 1) := by decide +kernel
theorem dX7_canTell_16 : decode cX7_canTell 16 = .ok (.goto 4, 3) := by decide +kernel
theorem dX7_canTell_19 : decode cX7_canTell 19 = .ok (.iconst 0, 1) := by decide +kernel
theorem dX7_canTell_20 : decode cX7_canTell 20 = .ok (.ireturn, 1) := by decide +kernel
theorem dX7_forget_0 : decode cX7_forget 0 = .ok (.aload_n 0, 1) := by decide +kernel
theorem dX7_forget_1 : decode cX7_forget 1 = .ok (.iconst 0, 1) := by decide +kernel
theorem dX7_forget_2 : decode cX7_forget 2 = .ok (.putfield 39, 3) := by decide +kernel
theorem dX7_forget_5 : decode cX7_forget 5 = .ok (.aload_n 0, 1) := by decide +kernel
theorem dX7_forget_6 : decode cX7_forget 6 = .ok (.iconst 0, 1) := by decide +kernel
theorem dX7_forget_7 : decode cX7_forget 7 = .ok (.putfield 43, 3) := by decide +kernel
theorem dX7_forget_10 : decode cX7_forget 10 = .ok (.aload_n 0, 1) := by decide +kernel
theorem dX7_forget_11 : decode cX7_forget 11 = .ok (.iconst 0, 1) := by decide +kernel
theorem dX7_forget_12 : decode cX7_forget 12 = .ok (.putfield 50, 3) := by decide +kernel
theorem dX7_forget_15 : decode cX7_forget 15 = .ok (.return_, 1) := by decide +kernel
theorem dX7_add_0 : decode cX7_add 0 = .ok (.aload_n 0, 1) := by decide +kernel
theorem dX7_add_1 : decode cX7_add 1 = .ok (.getfield 39, 3) := by decide +kernel
theorem dX7_add_4 : decode cX7_add 4 = .ok (.bipush 20, 2) := by decide +kernel
theorem dX7_add_6 : decode cX7_add 6 = .ok (.if_icmp .lt 6, 3) := by decide +kernel
theorem dX7_add_9 : decode cX7_add 9 = .ok (.bipush (-3), 2) := by decide +kernel
theorem dX7_add_11 : decode cX7_add 11 = .ok (.ireturn, 1) := by decide +kernel
theorem dX7_add_12 : decode cX7_add 12 = .ok (.aload_n 0, 1) := by decide +kernel
theorem dX7_add_13 : decode cX7_add 13 = .ok (.getfield 11, 3) := by decide +kernel
theorem dX7_add_16 : decode cX7_add 16 = .ok (.aload_n 0, 1) := by decide +kernel
theorem dX7_add_17 : decode cX7_add 17 = .ok (.getfield 39, 3) := by decide +kernel
theorem dX7_add_20 : decode cX7_add 20 = .ok (.iload_n 1, 1) := by decide +kernel
theorem dX7_add_21 : decode cX7_add 21 = .ok (.iastore, 1) := by decide +kernel
theorem dX7_add_22 : decode cX7_add 22 = .ok (.aload_n 0, 1) := by decide +kernel
theorem dX7_add_23 : decode cX7_add 23 = .ok (.getfield 15, 3) := by decide +kernel
theorem dX7_add_26 : decode cX7_add 26 = .ok (.aload_n 0, 1) := by decide +kernel
theorem dX7_add_27 : decode cX7_add 27 = .ok (.getfield 39, 3) := by decide +kernel
theorem dX7_add_30 : decode cX7_add 30 = .ok (.iload_n 2, 1) := by decide +kernel
theorem dX7_add_31 : decode cX7_add 31 = .ok (.iastore, 1) := by decide +kernel
theorem dX7_add_32 : decode cX7_add 32 = .ok (.aload_n 0, 1) := by decide +kernel
theorem dX7_add_33 : decode cX7_add 33 = .ok (.getfield 18, 3) := by decide +kernel
theorem dX7_add_36 : decode cX7_add 36 = .ok (.aload_n 0, 1) := by decide +kernel
theorem dX7_add_37 : decode cX7_add 37 = .ok (.getfield 39, 3) := by decide +kernel
theorem dX7_add_40 : decode cX7_add 40 = .ok (.iload_n 3, 1) := by decide +kernel
theorem dX7_add_41 : decode cX7_add 41 = .ok (.iastore, 1) := by decide +kernel
theorem dX7_add_42 : decode cX7_add 42 = .ok (.aload_n 0, 1) := by decide +kernel
theorem dX7_add_43 : decode cX7_add 43 = .ok (.getfield 21, 3) := by decide +kernel
theorem dX7_add_46 : decode cX7_add 46 = .ok (.aload_n 0, 1) := by decide +kernel
theorem dX7_add_47 : decode cX7_add 47 = .ok (.getfield 39, 3) := by decide +kernel
theorem dX7_add_50 : decode cX7_add 50 = .ok (.iload 4, 2) := by decide +kernel
theorem dX7_add_52 : decode cX7_add 52 = .ok (.iastore, 1) := by decide +kernel
theorem dX7_add_53 : decode cX7_add 53 = .ok (.aload_n 0, 1) := by decide +kernel
theorem dX7_add_54 : decode cX7_add 54 = .ok (.getfield 24, 3) := by decide +kernel
theorem dX7_add_57 : decode cX7_add 57 = .ok (.aload_n 0, 1) := by decide +kernel
theorem dX7_add_58 : decode cX7_add 58 = .ok (.getfield 39, 3) := by decide +kernel
theorem dX7_add_61 : decode cX7_add 61 = .ok (.iconst 0, 1) := by decide +kernel
theorem dX7_add_62 : decode cX7_add 62 = .ok (.iastore, 1) := by decide +kernel
theorem dX7_add_63 : decode cX7_add 63 = .ok (.aload_n 0, 1) := by decide +kernel
theorem dX7_add_64 : decode cX7_add 64 = .ok (.iload_n 1, 1) := by decide +kernel
theorem dX7_add_65 : decode cX7_add 65 = .ok (.putfield 50, 3) := by decide +kernel
theorem dX7_add_68 : decode cX7_add 68 = .ok (.aload_n 0, 1) := by decide +kernel
theorem dX7_add_69 : decode cX7_add 69 = .ok (.dup, 1) := by decide +kernel
theorem dX7_add_70 : decode cX7_add 70 = .ok (.getfield 39, 3) := by decide +kernel
theorem dX7_add_73 : decode cX7_add 73 = .ok (.iconst 1, 1) := by decide +kernel
theorem dX7_add_74 : decode cX7_add 74 = .ok (.iadd, 1) := by decide +kernel
theorem dX7_add_75 : decode cX7_add 75 = .ok (.putfield 39, 3) := by decide +kernel
theorem dX7_add_78 : decode cX7_add 78 = .ok (.aload_n 0, 1) := by decide +kernel
theorem dX7_add_79 : decode cX7_add 79 = .ok (.getfield 39, 3) := by decide +kernel
theorem dX7_add_82 : decode cX7_add 82 = .ok (.iconst 1, 1) := by decide +kernel
theorem dX7_add_83 : decode cX7_add 83 = .ok (.isub, 1) := by decide +kernel
theorem dX7_add_84 : decode cX7_add 84 = .ok (.ireturn, 1) := by decide +kernel
theorem dX7_putRight_0 : decode cX7_putRight 0 = .ok (.aload_n 0, 1) := by decide +kernel
theorem dX7_putRight_1 : decode cX7_putRight 1 = .ok (.getfield 43, 3) := by decide +kernel
theorem dX7_putRight_4 : decode cX7_putRight 4 = .ok (.bipush 20, 2) := by decide +kernel
theorem dX7_putRight_6 : decode cX7_putRight 6 = .ok (.if_icmp .ge 11, 3) := by decide +kernel
theorem dX7_putRight_9 : decode cX7_putRight 9 = .ok (.aload_n 0, 1) := by decide +kernel
theorem dX7_putRight_10 : decode cX7_putRight 10 = .ok (.iload_n 2, 1) := by decide +kernel
theorem dX7_putRight_11 : decode cX7_putRight 11 = .ok (.invokevirtual 46, 3) := by decide +kernel
theorem dX7_putRight_14 : decode cX7_putRight 14 = .ok (.ifCond .ne 6, 3) := by decide +kernel
theorem dX7_putRight_17 : decode cX7_putRight 17 = .ok (.bipush (-3), 2) := by decide +kernel
theorem dX7_putRight_19 : decode cX7_putRight 19 = .ok (.ireturn, 1) := by decide +kernel
theorem dX7_putRight_20 : decode cX7_putRight 20 = .ok (.aload_n 0, 1) := by decide +kernel
theorem dX7_putRight_21 : decode cX7_putRight 21 = .ok (.getfield 27, 3) := by decide +kernel
theorem dX7_putRight_24 : decode cX7_putRight 24 = .ok (.aload_n 0, 1) := by decide +kernel
theorem dX7_putRight_25 : decode cX7_putRight 25 = .ok (.getfield 43, 3) := by decide +kernel
theorem dX7_putRight_28 : decode cX7_putRight 28 = .ok (.iload_n 1, 1) := by decide +kernel
theorem dX7_putRight_29 : decode cX7_putRight 29 = .ok (.iastore, 1) := by decide +kernel
theorem dX7_putRight_30 : decode cX7_putRight 30 = .ok (.aload_n 0, 1) := by decide +kernel
theorem dX7_putRight_31 : decode cX7_putRight 31 = .ok (.getfield 30, 3) := by decide +kernel
theorem dX7_putRight_34 : decode cX7_putRight 34 = .ok (.aload_n 0, 1) := by decide +kernel
theorem dX7_putRight_35 : decode cX7_putRight 35 = .ok (.getfield 43, 3) := by decide +kernel
theorem dX7_putRight_38 : decode cX7_putRight 38 = .ok (.iload_n 2, 1) := by decide +kernel
theorem dX7_putRight_39 : decode cX7_putRight 39 = .ok (.iastore, 1) := by decide +kernel
theorem dX7_putRight_40 : decode cX7_putRight 40 = .ok (.aload_n 0, 1) := by decide +kernel
theorem dX7_putRight_41 : decode cX7_putRight 41 = .ok (.getfield 33, 3) := by decide +kernel
theorem dX7_putRight_44 : decode cX7_putRight 44 = .ok (.aload_n 0, 1) := by decide +kernel
theorem dX7_putRight_45 : decode cX7_putRight 45 = .ok (.getfield 43, 3) := by decide +kernel
theorem dX7_putRight_48 : decode cX7_putRight 48 = .ok (.iload_n 3, 1) := by decide +kernel
theorem dX7_putRight_49 : decode cX7_putRight 49 = .ok (.iastore, 1) := by decide +kernel
theorem dX7_putRight_50 : decode cX7_putRight 50 = .ok (.aload_n 0, 1) := by decide +kernel
theorem dX7_putRight_51 : decode cX7_putRight 51 = .ok (.iload_n 1, 1) := by decide +kernel
theorem dX7_putRight_52 : decode cX7_putRight 52 = .ok (.putfield 50, 3) := by decide +kernel
theorem dX7_putRight_55 : decode cX7_putRight 55 = .ok (.aload_n 0, 1) := by decide +kernel
theorem dX7_putRight_56 : decode cX7_putRight 56 = .ok (.dup, 1) := by decide +kernel
theorem dX7_putRight_57 : decode cX7_putRight 57 = .ok (.getfield 43, 3) := by decide +kernel
theorem dX7_putRight_60 : decode cX7_putRight 60 = .ok (.iconst 1, 1) := by decide +kernel
theorem dX7_putRight_61 : decode cX7_putRight 61 = .ok (.iadd, 1) := by decide +kernel
theorem dX7_putRight_62 : decode cX7_putRight 62 = .ok (.putfield 43, 3) := by decide +kernel
theorem dX7_putRight_65 : decode cX7_putRight 65 = .ok (.aload_n 0, 1) := by decide +kernel
theorem dX7_putRight_66 : decode cX7_putRight 66 = .ok (.getfield 24, 3) := by decide +kernel
theorem dX7_putRight_69 : decode cX7_putRight 69 = .ok (.iload_n 2, 1) := by decide +kernel
theorem dX7_putRight_70 : decode cX7_putRight 70 = .ok (.dup2, 1) := by decide +kernel
theorem dX7_putRight_71 : decode cX7_putRight 71 = .ok (.iaload, 1) := by decide +kernel
theorem dX7_putRight_72 : decode cX7_putRight 72 = .ok (.iconst 1, 1) := by decide +kernel
theorem dX7_putRight_73 : decode cX7_putRight 73 = .ok (.iadd, 1) := by decide +kernel
theorem dX7_putRight_74 : decode cX7_putRight 74 = .ok (.iastore, 1) := by decide +kernel
theorem dX7_putRight_75 : decode cX7_putRight 75 = .ok (.aload_n 0, 1) := by decide +kernel
theorem dX7_putRight_76 : decode cX7_putRight 76 = .ok (.getfield 24, 3) := by decide +kernel
theorem dX7_putRight_79 : decode cX7_putRight 79 = .ok (.iload_n 2, 1) := by decide +kernel
theorem dX7_putRight_80 : decode cX7_putRight 80 = .ok (.iaload, 1) := by decide +kernel
theorem dX7_putRight_81 : decode cX7_putRight 81 = .ok (.ireturn, 1) := by decide +kernel
theorem dX7_recall_0 : decode cX7_recall 0 = .ok (.iconst 0, 1) := by decide +kernel
theorem dX7_recall_1 : decode cX7_recall 1 = .ok (.istore_n 2, 1) := by decide +kernel
theorem dX7_recall_2 : decode cX7_recall 2 = .ok (.iload_n 2, 1) := by decide +kernel
theorem dX7_recall_3 : decode cX7_recall 3 = .ok (.aload_n 0, 1) := by decide +kernel
theorem dX7_recall_4 : decode cX7_recall 4 = .ok (.getfield 39, 3) := by decide +kernel
theorem dX7_recall_7 : decode cX7_recall 7 = .ok (.if_icmp .ge 35, 3) := by decide +kernel
theorem dX7_recall_10 : decode cX7_recall 10 = .ok (.aload_n 0, 1) := by decide +kernel
theorem dX7_recall_11 : decode cX7_recall 11 = .ok (.getfield 36, 3) := by decide +kernel
theorem dX7_recall_14 : decode cX7_recall 14 = .ok (.iload_n 2, 1) := by decide +kernel
theorem dX7_recall_15 : decode cX7_recall 15 = .ok (.aload_n 0, 1) := by decide +kernel
theorem dX7_recall_16 : decode cX7_recall 16 = .ok (.getfield 11, 3) := by decide +kernel
theorem dX7_recall_19 : decode cX7_recall 19 = .ok (.iload_n 2, 1) := by decide +kernel
theorem dX7_recall_20 : decode cX7_recall 20 = .ok (.iaload, 1) := by decide +kernel
theorem dX7_recall_21 : decode cX7_recall 21 = .ok (.iload_n 1, 1) := by decide +kernel
theorem dX7_recall_22 : decode cX7_recall 22 = .ok (.if_icmp .gt 12, 3) := by decide +kernel
theorem dX7_recall_25 : decode cX7_recall 25 = .ok (.aload_n 0, 1) := by decide +kernel
theorem dX7_recall_26 : decode cX7_recall 26 = .ok (.getfield 21, 3) := by decide +kernel
theorem dX7_recall_29 : decode cX7_recall 29 = .ok (.iload_n 2, 1) := by decide +kernel
theorem dX7_recall_30 : decode cX7_recall 30 = .ok (.iaload, 1) := by decide +kernel
theorem dX7_recall_31 : decode cX7_recall 31 = .ok (.goto 4, 3) := by decide +kernel
theorem dX7_recall_34 : decode cX7_recall 34 = .ok (.iconst (-1), 1) := by decide +kernel
theorem dX7_recall_35 : decode cX7_recall 35 = .ok (.iastore, 1) := by decide +kernel
theorem dX7_recall_36 : decode cX7_recall 36 = .ok (.iinc 2 1, 3) := by decide +kernel
theorem dX7_recall_39 : decode cX7_recall 39 = .ok (.goto (-37), 3) := by decide +kernel
theorem dX7_recall_42 : decode cX7_recall 42 = .ok (.iconst 0, 1) := by decide +kernel
theorem dX7_recall_43 : decode cX7_recall 43 = .ok (.istore_n 2, 1) := by decide +kernel
theorem dX7_recall_44 : decode cX7_recall 44 = .ok (.iload_n 2, 1) := by decide +kernel
theorem dX7_recall_45 : decode cX7_recall 45 = .ok (.aload_n 0, 1) := by decide +kernel
theorem dX7_recall_46 : decode cX7_recall 46 = .ok (.getfield 43, 3) := by decide +kernel
theorem dX7_recall_49 : decode cX7_recall 49 = .ok (.if_icmp .ge 49, 3) := by decide +kernel
theorem dX7_recall_52 : decode cX7_recall 52 = .ok (.aload_n 0, 1) := by decide +kernel
theorem dX7_recall_53 : decode cX7_recall 53 = .ok (.getfield 27, 3) := by decide +kernel
theorem dX7_recall_56 : decode cX7_recall 56 = .ok (.iload_n 2, 1) := by decide +kernel
theorem dX7_recall_57 : decode cX7_recall 57 = .ok (.iaload, 1) := by decide +kernel
theorem dX7_recall_58 : decode cX7_recall 58 = .ok (.iload_n 1, 1) := by decide +kernel
theorem dX7_recall_59 : decode cX7_recall 59 = .ok (.if_icmp .gt 33, 3) := by decide +kernel
theorem dX7_recall_62 : decode cX7_recall 62 = .ok (.aload_n 0, 1) := by decide +kernel
theorem dX7_recall_63 : decode cX7_recall 63 = .ok (.aload_n 0, 1) := by decide +kernel
theorem dX7_recall_64 : decode cX7_recall 64 = .ok (.getfield 30, 3) := by decide +kernel
theorem dX7_recall_67 : decode cX7_recall 67 = .ok (.iload_n 2, 1) := by decide +kernel
theorem dX7_recall_68 : decode cX7_recall 68 = .ok (.iaload, 1) := by decide +kernel
theorem dX7_recall_69 : decode cX7_recall 69 = .ok (.invokevirtual 46, 3) := by decide +kernel
theorem dX7_recall_72 : decode cX7_recall 72 = .ok (.ifCond .eq 20, 3) := by decide +kernel
theorem dX7_recall_75 : decode cX7_recall 75 = .ok (.aload_n 0, 1) := by decide +kernel
theorem dX7_recall_76 : decode cX7_recall 76 = .ok (.getfield 36, 3) := by decide +kernel
theorem dX7_recall_79 : decode cX7_recall 79 = .ok (.aload_n 0, 1) := by decide +kernel
theorem dX7_recall_80 : decode cX7_recall 80 = .ok (.getfield 30, 3) := by decide +kernel
theorem dX7_recall_83 : decode cX7_recall 83 = .ok (.iload_n 2, 1) := by decide +kernel
theorem dX7_recall_84 : decode cX7_recall 84 = .ok (.iaload, 1) := by decide +kernel
theorem dX7_recall_85 : decode cX7_recall 85 = .ok (.aload_n 0, 1) := by decide +kernel
theorem dX7_recall_86 : decode cX7_recall 86 = .ok (.getfield 33, 3) := by decide +kernel
theorem dX7_recall_89 : decode cX7_recall 89 = .ok (.iload_n 2, 1) := by decide +kernel
theorem dX7_recall_90 : decode cX7_recall 90 = .ok (.iaload, 1) := by decide +kernel
theorem dX7_recall_91 : decode cX7_recall 91 = .ok (.iastore, 1) := by decide +kernel
theorem dX7_recall_92 : decode cX7_recall 92 = .ok (.iinc 2 1, 3) := by decide +kernel
theorem dX7_recall_95 : decode cX7_recall 95 = .ok (.goto (-51), 3) := by decide +kernel
theorem dX7_recall_98 : decode cX7_recall 98 = .ok (.return_, 1) := by decide +kernel
theorem dX7_agreeWith_0 : decode cX7_agreeWith 0 = .ok (.iconst 0, 1) := by decide +kernel
theorem dX7_agreeWith_1 : decode cX7_agreeWith 1 = .ok (.istore_n 3, 1) := by decide +kernel
theorem dX7_agreeWith_2 : decode cX7_agreeWith 2 = .ok (.iload_n 3, 1) := by decide +kernel
theorem dX7_agreeWith_3 : decode cX7_agreeWith 3 = .ok (.aload_n 0, 1) := by decide +kernel
theorem dX7_agreeWith_4 : decode cX7_agreeWith 4 = .ok (.getfield 39, 3) := by decide +kernel
theorem dX7_agreeWith_7 : decode cX7_agreeWith 7 = .ok (.if_icmp .ge 59, 3) := by decide +kernel
theorem dX7_agreeWith_10 : decode cX7_agreeWith 10 = .ok (.aload_n 0, 1) := by decide +kernel
theorem dX7_agreeWith_11 : decode cX7_agreeWith 11 = .ok (.getfield 36, 3) := by decide +kernel
theorem dX7_agreeWith_14 : decode cX7_agreeWith 14 = .ok (.iload_n 3, 1) := by decide +kernel
theorem dX7_agreeWith_15 : decode cX7_agreeWith 15 = .ok (.iaload, 1) := by decide +kernel
theorem dX7_agreeWith_16 : decode cX7_agreeWith 16 = .ok (.iconst (-1), 1) := by decide +kernel
theorem dX7_agreeWith_17 : decode cX7_agreeWith 17 = .ok (.if_icmp .eq 7, 3) := by decide +kernel
theorem dX7_agreeWith_20 : decode cX7_agreeWith 20 = .ok (.iconst 1, 1) := by decide +kernel
theorem dX7_agreeWith_21 : decode cX7_agreeWith 21 = .ok (.goto 4, 3) := by decide +kernel
theorem dX7_agreeWith_24 : decode cX7_agreeWith 24 = .ok (.iconst 0, 1) := by decide +kernel
theorem dX7_agreeWith_25 : decode cX7_agreeWith 25 = .ok (.istore 4, 2) := by decide +kernel
theorem dX7_agreeWith_27 : decode cX7_agreeWith 27 = .ok (.iload 4, 2) := by decide +kernel
theorem dX7_agreeWith_29 : decode cX7_agreeWith 29 = .ok (.ifCond .eq 31, 3) := by decide +kernel
theorem dX7_agreeWith_32 : decode cX7_agreeWith 32 = .ok (.aload_n 1, 1) := by decide +kernel
theorem dX7_agreeWith_33 : decode cX7_agreeWith 33 = .ok (.iload_n 2, 1) := by decide +kernel
theorem dX7_agreeWith_34 : decode cX7_agreeWith 34 = .ok (.aload_n 0, 1) := by decide +kernel
theorem dX7_agreeWith_35 : decode cX7_agreeWith 35 = .ok (.getfield 15, 3) := by decide +kernel
theorem dX7_agreeWith_38 : decode cX7_agreeWith 38 = .ok (.iload_n 3, 1) := by decide +kernel
theorem dX7_agreeWith_39 : decode cX7_agreeWith 39 = .ok (.iaload, 1) := by decide +kernel
theorem dX7_agreeWith_40 : decode cX7_agreeWith 40 = .ok (.aload_n 0, 1) := by decide +kernel
theorem dX7_agreeWith_41 : decode cX7_agreeWith 41 = .ok (.getfield 18, 3) := by decide +kernel
theorem dX7_agreeWith_44 : decode cX7_agreeWith 44 = .ok (.iload_n 3, 1) := by decide +kernel
theorem dX7_agreeWith_45 : decode cX7_agreeWith 45 = .ok (.iaload, 1) := by decide +kernel
theorem dX7_agreeWith_46 : decode cX7_agreeWith 46 = .ok (.invokevirtual 53, 3) := by decide +kernel
theorem dX7_agreeWith_49 : decode cX7_agreeWith 49 = .ok (.aload_n 0, 1) := by decide +kernel
theorem dX7_agreeWith_50 : decode cX7_agreeWith 50 = .ok (.getfield 36, 3) := by decide +kernel
theorem dX7_agreeWith_53 : decode cX7_agreeWith 53 = .ok (.iload_n 3, 1) := by decide +kernel
theorem dX7_agreeWith_54 : decode cX7_agreeWith 54 = .ok (.iaload, 1) := by decide +kernel
theorem dX7_agreeWith_55 : decode cX7_agreeWith 55 = .ok (.if_icmp .eq 5, 3) := by decide +kernel
theorem dX7_agreeWith_58 : decode cX7_agreeWith 58 = .ok (.iconst 0, 1) := by decide +kernel
theorem dX7_agreeWith_59 : decode cX7_agreeWith 59 = .ok (.ireturn, 1) := by decide +kernel
theorem dX7_agreeWith_60 : decode cX7_agreeWith 60 = .ok (.iinc 3 1, 3) := by decide +kernel
theorem dX7_agreeWith_63 : decode cX7_agreeWith 63 = .ok (.goto (-61), 3) := by decide +kernel
theorem dX7_agreeWith_66 : decode cX7_agreeWith 66 = .ok (.iconst 1, 1) := by decide +kernel
theorem dX7_agreeWith_67 : decode cX7_agreeWith 67 = .ok (.ireturn, 1) := by decide +kernel
