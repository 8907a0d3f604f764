theorem dX10_init_0 : decode cX10_init 0 = .ok (.aload_n 0, 1) := by decide +kernel
theorem dX10_init_1 : decode cX10_init 1 = .ok (.invokespecial 1, 3) := by decide +kernel
theorem dX10_init_4 : decode cX10_init 4 = .ok (.aload_n 0, 1) := by decide +kernel
theorem dX10_init_5 : decode cX10_init 5 = .ok (.new 7, 3) := by decide +kernel
theorem dX10_init_8 : decode cX10_init 8 = .ok (.dup, 1) := by decide +kernel
theorem dX10_init_9 : decode cX10_init 9 = .ok (.invokespecial 9, 3) := by decide +kernel
theorem dX10_init_12 : decode cX10_init 12 = .ok (.putfield 10, 3) := by decide +kernel
theorem dX10_init_15 : decode cX10_init 15 = .ok (.aload_n 0, 1) := by decide +kernel
theorem dX10_init_16 : decode cX10_init 16 = .ok (.new 16, 3) := by decide +kernel
theorem dX10_init_19 : decode cX10_init 19 = .ok (.dup, 1) := by decide +kernel
theorem dX10_init_20 : decode cX10_init 20 = .ok (.invokespecial 18, 3) := by decide +kernel
theorem dX10_init_23 : decode cX10_init 23 = .ok (.putfield 19, 3) := by decide +kernel
theorem dX10_init_26 : decode cX10_init 26 = .ok (.aload_n 0, 1) := by decide +kernel
theorem dX10_init_27 : decode cX10_init 27 = .ok (.new 23, 3) := by decide +kernel
theorem dX10_init_30 : decode cX10_init 30 = .ok (.dup, 1) := by decide +kernel
theorem dX10_init_31 : decode cX10_init 31 = .ok (.invokespecial 25, 3) := by decide +kernel
theorem dX10_init_34 : decode cX10_init 34 = .ok (.putfield 26, 3) := by decide +kernel
theorem dX10_init_37 : decode cX10_init 37 = .ok (.aload_n 0, 1) := by decide +kernel
theorem dX10_init_38 : decode cX10_init 38 = .ok (.new 30, 3) := by decide +kernel
theorem dX10_init_41 : decode cX10_init 41 = .ok (.dup, 1) := by decide +kernel
theorem dX10_init_42 : decode cX10_init 42 = .ok (.invokespecial 32, 3) := by decide +kernel
theorem dX10_init_45 : decode cX10_init 45 = .ok (.putfield 33, 3) := by decide +kernel
theorem dX10_init_48 : decode cX10_init 48 = .ok (.aload_n 0, 1) := by decide +kernel
theorem dX10_init_49 : decode cX10_init 49 = .ok (.new 37, 3) := by decide +kernel
theorem dX10_init_52 : decode cX10_init 52 = .ok (.dup, 1) := by decide +kernel
theorem dX10_init_53 : decode cX10_init 53 = .ok (.invokespecial 39, 3) := by decide +kernel
theorem dX10_init_56 : decode cX10_init 56 = .ok (.putfield 40, 3) := by decide +kernel
theorem dX10_init_59 : decode cX10_init 59 = .ok (.aload_n 0, 1) := by decide +kernel
theorem dX10_init_60 : decode cX10_init 60 = .ok (.new 44, 3) := by decide +kernel
theorem dX10_init_63 : decode cX10_init 63 = .ok (.dup, 1) := by decide +kernel
theorem dX10_init_64 : decode cX10_init 64 = .ok (.invokespecial 46, 3) := by decide +kernel
theorem dX10_init_67 : decode cX10_init 67 = .ok (.putfield 47, 3) := by decide +kernel
theorem dX10_init_70 : decode cX10_init 70 = .ok (.aload_n 0, 1) := by decide +kernel
theorem dX10_init_71 : decode cX10_init 71 = .ok (.new 51, 3) := by decide +kernel
theorem dX10_init_74 : decode cX10_init 74 = .ok (.dup, 1) := by decide +kernel
theorem dX10_init_75 : decode cX10_init 75 = .ok (.invokespecial 53, 3) := by decide +kernel
theorem dX10_init_78 : decode cX10_init 78 = .ok (.putfield 54, 3) := by decide +kernel
theorem dX10_init_81 : decode cX10_init 81 = .ok (.aload_n 0, 1) := by decide +kernel
theorem dX10_init_82 : decode cX10_init 82 = .ok (.new 58, 3) := by decide +kernel
theorem dX10_init_85 : decode cX10_init 85 = .ok (.dup, 1) := by decide +kernel
theorem dX10_init_86 : decode cX10_init 86 = .ok (.invokespecial 60, 3) := by decide +kernel
theorem dX10_init_89 : decode cX10_init 89 = .ok (.putfield 61, 3) := by decide +kernel
theorem dX10_init_92 : decode cX10_init 92 = .ok (.aload_n 0, 1) := by decide +kernel
theorem dX10_init_93 : decode cX10_init 93 = .ok (.new 65, 3) := by decide +kernel
theorem dX10_init_96 : decode cX10_init 96 = .ok (.dup, 1) := by decide +kernel
theorem dX10_init_97 : decode cX10_init 97 = .ok (.invokespecial 67, 3) := by decide +kernel
theorem dX10_init_100 : decode cX10_init 100 = .ok (.putfield 68, 3) := by decide +kernel
theorem dX10_init_103 : decode cX10_init 103 = .ok (.aload_n 0, 1) := by decide +kernel
theorem dX10_init_104 : decode cX10_init 104 = .ok (.bipush 10, 2) := by decide +kernel
theorem dX10_init_106 : decode cX10_init 106 = .ok (.newarray .int, 2) := by decide +kernel
theorem dX10_init_108 : decode cX10_init 108 = .ok (.putfield 72, 3) := by decide +kernel
theorem dX10_init_111 : decode cX10_init 111 = .ok (.aload_n 0, 1) := by decide +kernel
theorem dX10_init_112 : decode cX10_init 112 = .ok (.iconst (-1), 1) := by decide +kernel
theorem dX10_init_113 : decode cX10_init 113 = .ok (.putfield 76, 3) := by decide +kernel
theorem dX10_init_116 : decode cX10_init 116 = .ok (.aload_n 0, 1) := by decide +kernel
theorem dX10_init_117 : decode cX10_init 117 = .ok (.aload_n 0, 1) := by decide +kernel
theorem dX10_init_118 : decode cX10_init 118 = .ok (.getfield 19, 3) := by decide +kernel
theorem dX10_init_121 : decode cX10_init 121 = .ok (.iconst 4, 1) := by decide +kernel
theorem dX10_init_122 : decode cX10_init 122 = .ok (.invokevirtual 80, 3) := by decide +kernel
theorem dX10_init_125 : decode cX10_init 125 = .ok (.putfield 84, 3) := by decide +kernel
theorem dX10_init_128 : decode cX10_init 128 = .ok (.aload_n 0, 1) := by decide +kernel
theorem dX10_init_129 : decode cX10_init 129 = .ok (.aload_n 0, 1) := by decide +kernel
theorem dX10_init_130 : decode cX10_init 130 = .ok (.getfield 84, 3) := by decide +kernel
theorem dX10_init_133 : decode cX10_init 133 = .ok (.iconst 0, 1) := by decide +kernel
theorem dX10_init_134 : decode cX10_init 134 = .ok (.invokevirtual 88, 3) := by decide +kernel
theorem dX10_init_137 : decode cX10_init 137 = .ok (.putfield 94, 3) := by decide +kernel
theorem dX10_init_140 : decode cX10_init 140 = .ok (.return_, 1) := by decide +kernel
theorem dX10_feed_0 : decode cX10_feed 0 = .ok (.aload_n 0, 1) := by decide +kernel
theorem dX10_feed_1 : decode cX10_feed 1 = .ok (.getfield 10, 3) := by decide +kernel
theorem dX10_feed_4 : decode cX10_feed 4 = .ok (.invokevirtual 97, 3) := by decide +kernel
theorem dX10_feed_7 : decode cX10_feed 7 = .ok (.ifCond .ne 6, 3) := by decide +kernel
theorem dX10_feed_10 : decode cX10_feed 10 = .ok (.bipush (-3), 2) := by decide +kernel
theorem dX10_feed_12 : decode cX10_feed 12 = .ok (.ireturn, 1) := by decide +kernel
theorem dX10_feed_13 : decode cX10_feed 13 = .ok (.aload_n 0, 1) := by decide +kernel
theorem dX10_feed_14 : decode cX10_feed 14 = .ok (.getfield 10, 3) := by decide +kernel
theorem dX10_feed_17 : decode cX10_feed 17 = .ok (.iload_n 1, 1) := by decide +kernel
theorem dX10_feed_18 : decode cX10_feed 18 = .ok (.invokevirtual 101, 3) := by decide +kernel
theorem dX10_feed_21 : decode cX10_feed 21 = .ok (.aload_n 0, 1) := by decide +kernel
theorem dX10_feed_22 : decode cX10_feed 22 = .ok (.getfield 10, 3) := by decide +kernel
theorem dX10_feed_25 : decode cX10_feed 25 = .ok (.iload_n 2, 1) := by decide +kernel
theorem dX10_feed_26 : decode cX10_feed 26 = .ok (.invokevirtual 101, 3) := by decide +kernel
theorem dX10_feed_29 : decode cX10_feed 29 = .ok (.aload_n 0, 1) := by decide +kernel
theorem dX10_feed_30 : decode cX10_feed 30 = .ok (.getfield 10, 3) := by decide +kernel
theorem dX10_feed_33 : decode cX10_feed 33 = .ok (.iload_n 3, 1) := by decide +kernel
theorem dX10_feed_34 : decode cX10_feed 34 = .ok (.invokevirtual 101, 3) := by decide +kernel
theorem dX10_feed_37 : decode cX10_feed 37 = .ok (.aload_n 0, 1) := by decide +kernel
theorem dX10_feed_38 : decode cX10_feed 38 = .ok (.getfield 10, 3) := by decide +kernel
theorem dX10_feed_41 : decode cX10_feed 41 = .ok (.iload 4, 2) := by decide +kernel
theorem dX10_feed_43 : decode cX10_feed 43 = .ok (.invokevirtual 101, 3) := by decide +kernel
theorem dX10_feed_46 : decode cX10_feed 46 = .ok (.aload_n 0, 1) := by decide +kernel
theorem dX10_feed_47 : decode cX10_feed 47 = .ok (.getfield 10, 3) := by decide +kernel
theorem dX10_feed_50 : decode cX10_feed 50 = .ok (.iload 5, 2) := by decide +kernel
theorem dX10_feed_52 : decode cX10_feed 52 = .ok (.invokevirtual 101, 3) := by decide +kernel
theorem dX10_feed_55 : decode cX10_feed 55 = .ok (.aload_n 0, 1) := by decide +kernel
theorem dX10_feed_56 : decode cX10_feed 56 = .ok (.getfield 10, 3) := by decide +kernel
theorem dX10_feed_59 : decode cX10_feed 59 = .ok (.invokevirtual 105, 3) := by decide +kernel
theorem dX10_feed_62 : decode cX10_feed 62 = .ok (.ireturn, 1) := by decide +kernel
theorem dX10_end_0 : decode cX10_end 0 = .ok (.iload_n 1, 1) := by decide +kernel
theorem dX10_end_1 : decode cX10_end 1 = .ok (.ifCond .lt 14, 3) := by decide +kernel
theorem dX10_end_4 : decode cX10_end 4 = .ok (.iload_n 1, 1) := by decide +kernel
theorem dX10_end_5 : decode cX10_end 5 = .ok (.aload_n 0, 1) := by decide +kernel
theorem dX10_end_6 : decode cX10_end 6 = .ok (.getfield 10, 3) := by decide +kernel
theorem dX10_end_9 : decode cX10_end 9 = .ok (.invokevirtual 105, 3) := by decide +kernel
theorem dX10_end_12 : decode cX10_end 12 = .ok (.if_icmp .le 5, 3) := by decide +kernel
theorem dX10_end_15 : decode cX10_end 15 = .ok (.iconst (-1), 1) := by decide +kernel
theorem dX10_end_16 : decode cX10_end 16 = .ok (.ireturn, 1) := by decide +kernel
theorem dX10_end_17 : decode cX10_end 17 = .ok (.aload_n 0, 1) := by decide +kernel
theorem dX10_end_18 : decode cX10_end 18 = .ok (.getfield 10, 3) := by decide +kernel
theorem dX10_end_21 : decode cX10_end 21 = .ok (.iload_n 1, 1) := by decide +kernel
theorem dX10_end_22 : decode cX10_end 22 = .ok (.invokevirtual 109, 3) := by decide +kernel
theorem dX10_end_25 : decode cX10_end 25 = .ok (.iload_n 1, 1) := by decide +kernel
theorem dX10_end_26 : decode cX10_end 26 = .ok (.ireturn, 1) := by decide +kernel
theorem dX10_cut_0 : decode cX10_cut 0 = .ok (.aload_n 0, 1) := by decide +kernel
theorem dX10_cut_1 : decode cX10_cut 1 = .ok (.getfield 26, 3) := by decide +kernel
theorem dX10_cut_4 : decode cX10_cut 4 = .ok (.aload_n 0, 1) := by decide +kernel
theorem dX10_cut_5 : decode cX10_cut 5 = .ok (.getfield 10, 3) := by decide +kernel
theorem dX10_cut_8 : decode cX10_cut 8 = .ok (.aload_n 0, 1) := by decide +kernel
theorem dX10_cut_9 : decode cX10_cut 9 = .ok (.getfield 19, 3) := by decide +kernel
theorem dX10_cut_12 : decode cX10_cut 12 = .ok (.invokevirtual 112, 3) := by decide +kernel
theorem dX10_cut_15 : decode cX10_cut 15 = .ok (.istore_n 1, 1) := by decide +kernel
theorem dX10_cut_16 : decode cX10_cut 16 = .ok (.aload_n 0, 1) := by decide +kernel
theorem dX10_cut_17 : decode cX10_cut 17 = .ok (.getfield 10, 3) := by decide +kernel
theorem dX10_cut_20 : decode cX10_cut 20 = .ok (.iconst 0, 1) := by decide +kernel
theorem dX10_cut_21 : decode cX10_cut 21 = .ok (.invokevirtual 109, 3) := by decide +kernel
theorem dX10_cut_24 : decode cX10_cut 24 = .ok (.iload_n 1, 1) := by decide +kernel
theorem dX10_cut_25 : decode cX10_cut 25 = .ok (.ifCond .ne 5, 3) := by decide +kernel
theorem dX10_cut_28 : decode cX10_cut 28 = .ok (.iconst (-1), 1) := by decide +kernel
theorem dX10_cut_29 : decode cX10_cut 29 = .ok (.ireturn, 1) := by decide +kernel
theorem dX10_cut_30 : decode cX10_cut 30 = .ok (.aload_n 0, 1) := by decide +kernel
theorem dX10_cut_31 : decode cX10_cut 31 = .ok (.aload_n 0, 1) := by decide +kernel
theorem dX10_cut_32 : decode cX10_cut 32 = .ok (.getfield 26, 3) := by decide +kernel
theorem dX10_cut_35 : decode cX10_cut 35 = .ok (.invokevirtual 116, 3) := by decide +kernel
theorem dX10_cut_38 : decode cX10_cut 38 = .ok (.aload_n 0, 1) := by decide +kernel
theorem dX10_cut_39 : decode cX10_cut 39 = .ok (.getfield 26, 3) := by decide +kernel
theorem dX10_cut_42 : decode cX10_cut 42 = .ok (.invokevirtual 119, 3) := by decide +kernel
theorem dX10_cut_45 : decode cX10_cut 45 = .ok (.invokevirtual 121, 3) := by decide +kernel
theorem dX10_cut_48 : decode cX10_cut 48 = .ok (.aload_n 0, 1) := by decide +kernel
theorem dX10_cut_49 : decode cX10_cut 49 = .ok (.getfield 84, 3) := by decide +kernel
theorem dX10_cut_52 : decode cX10_cut 52 = .ok (.aload_n 0, 1) := by decide +kernel
theorem dX10_cut_53 : decode cX10_cut 53 = .ok (.getfield 94, 3) := by decide +kernel
theorem dX10_cut_56 : decode cX10_cut 56 = .ok (.invokevirtual 125, 3) := by decide +kernel
theorem dX10_cut_59 : decode cX10_cut 59 = .ok (.ireturn, 1) := by decide +kernel
theorem dX10_fault_0 : decode cX10_fault 0 = .ok (.iload_n 1, 1) := by decide +kernel
theorem dX10_fault_1 : decode cX10_fault 1 = .ok (.ifCond .ne 13, 3) := by decide +kernel
theorem dX10_fault_4 : decode cX10_fault 4 = .ok (.aload_n 0, 1) := by decide +kernel
theorem dX10_fault_5 : decode cX10_fault 5 = .ok (.getfield 26, 3) := by decide +kernel
theorem dX10_fault_8 : decode cX10_fault 8 = .ok (.invokevirtual 128, 3) := by decide +kernel
theorem dX10_fault_11 : decode cX10_fault 11 = .ok (.goto 19, 3) := by decide +kernel
theorem dX10_fault_14 : decode cX10_fault 14 = .ok (.iload_n 1, 1) := by decide +kernel
theorem dX10_fault_15 : decode cX10_fault 15 = .ok (.iconst 1, 1) := by decide +kernel
theorem dX10_fault_16 : decode cX10_fault 16 = .ok (.if_icmp .ne 13, 3) := by decide +kernel
theorem dX10_fault_19 : decode cX10_fault 19 = .ok (.aload_n 0, 1) := by decide +kernel
theorem dX10_fault_20 : decode cX10_fault 20 = .ok (.getfield 26, 3) := by decide +kernel
theorem dX10_fault_23 : decode cX10_fault 23 = .ok (.invokevirtual 131, 3) := by decide +kernel
theorem dX10_fault_26 : decode cX10_fault 26 = .ok (.goto 4, 3) := by decide +kernel
theorem dX10_fault_29 : decode cX10_fault 29 = .ok (.iconst (-1), 1) := by decide +kernel
theorem dX10_fault_30 : decode cX10_fault 30 = .ok (.ireturn, 1) := by decide +kernel
theorem dX10_take_0 : decode cX10_take 0 = .ok (.aload_n 0, 1) := by decide +kernel
theorem dX10_take_1 : decode cX10_take 1 = .ok (.getfield 19, 3) := by decide +kernel
theorem dX10_take_4 : decode cX10_take 4 = .ok (.iload_n 1, 1) := by decide +kernel
theorem dX10_take_5 : decode cX10_take 5 = .ok (.invokevirtual 80, 3) := by decide +kernel
theorem dX10_take_8 : decode cX10_take 8 = .ok (.astore_n 3, 1) := by decide +kernel
theorem dX10_take_9 : decode cX10_take 9 = .ok (.aload_n 3, 1) := by decide +kernel
theorem dX10_take_10 : decode cX10_take 10 = .ok (.ifnull 11, 3) := by decide +kernel
theorem dX10_take_13 : decode cX10_take 13 = .ok (.aload_n 3, 1) := by decide +kernel
theorem dX10_take_14 : decode cX10_take 14 = .ok (.iload_n 2, 1) := by decide +kernel
theorem dX10_take_15 : decode cX10_take 15 = .ok (.invokevirtual 134, 3) := by decide +kernel
theorem dX10_take_18 : decode cX10_take 18 = .ok (.ifCond .ne 6, 3) := by decide +kernel
theorem dX10_take_21 : decode cX10_take 21 = .ok (.bipush (-2), 2) := by decide +kernel
theorem dX10_take_23 : decode cX10_take 23 = .ok (.ireturn, 1) := by decide +kernel
theorem dX10_take_24 : decode cX10_take 24 = .ok (.aload_n 0, 1) := by decide +kernel
theorem dX10_take_25 : decode cX10_take 25 = .ok (.aload_n 3, 1) := by decide +kernel
theorem dX10_take_26 : decode cX10_take 26 = .ok (.aload_n 3, 1) := by decide +kernel
theorem dX10_take_27 : decode cX10_take 27 = .ok (.iload_n 2, 1) := by decide +kernel
theorem dX10_take_28 : decode cX10_take 28 = .ok (.invokevirtual 88, 3) := by decide +kernel
theorem dX10_take_31 : decode cX10_take 31 = .ok (.invokevirtual 121, 3) := by decide +kernel
theorem dX10_take_34 : decode cX10_take 34 = .ok (.iload_n 2, 1) := by decide +kernel
theorem dX10_take_35 : decode cX10_take 35 = .ok (.ireturn, 1) := by decide +kernel
theorem dX10_told_0 : decode cX10_told 0 = .ok (.iload_n 1, 1) := by decide +kernel
theorem dX10_told_1 : decode cX10_told 1 = .ok (.tableswitch 67 0 3 #[31, 39, 51, 59], 31) := by decide +kernel
theorem dX10_told_32 : decode cX10_told 32 = .ok (.aload_n 0, 1) := by decide +kernel
theorem dX10_told_33 : decode cX10_told 33 = .ok (.getfield 84, 3) := by decide +kernel
theorem dX10_told_36 : decode cX10_told 36 = .ok (.invokevirtual 138, 3) := by decide +kernel
theorem dX10_told_39 : decode cX10_told 39 = .ok (.ireturn, 1) := by decide +kernel
theorem dX10_told_40 : decode cX10_told 40 = .ok (.aload_n 0, 1) := by decide +kernel
theorem dX10_told_41 : decode cX10_told 41 = .ok (.getfield 84, 3) := by decide +kernel
theorem dX10_told_44 : decode cX10_told 44 = .ok (.aload_n 0, 1) := by decide +kernel
theorem dX10_told_45 : decode cX10_told 45 = .ok (.getfield 94, 3) := by decide +kernel
theorem dX10_told_48 : decode cX10_told 48 = .ok (.invokevirtual 125, 3) := by decide +kernel
theorem dX10_told_51 : decode cX10_told 51 = .ok (.ireturn, 1) := by decide +kernel
theorem dX10_told_52 : decode cX10_told 52 = .ok (.aload_n 0, 1) := by decide +kernel
theorem dX10_told_53 : decode cX10_told 53 = .ok (.getfield 84, 3) := by decide +kernel
theorem dX10_told_56 : decode cX10_told 56 = .ok (.invokevirtual 141, 3) := by decide +kernel
theorem dX10_told_59 : decode cX10_told 59 = .ok (.ireturn, 1) := by decide +kernel
theorem dX10_told_60 : decode cX10_told 60 = .ok (.aload_n 0, 1) := by decide +kernel
theorem dX10_told_61 : decode cX10_told 61 = .ok (.getfield 54, 3) := by decide +kernel
theorem dX10_told_64 : decode cX10_told 64 = .ok (.invokevirtual 144, 3) := by decide +kernel
theorem dX10_told_67 : decode cX10_told 67 = .ok (.ireturn, 1) := by decide +kernel
theorem dX10_told_68 : decode cX10_told 68 = .ok (.iconst (-1), 1) := by decide +kernel
theorem dX10_told_69 : decode cX10_told 69 = .ok (.ireturn, 1) := by decide +kernel
theorem dX10_triangle_0 : decode cX10_triangle 0 = .ok (.iload_n 1, 1) := by decide +kernel
theorem dX10_triangle_1 : decode cX10_triangle 1 = .ok (.ifCond .lt 25, 3) := by decide +kernel
theorem dX10_triangle_4 : decode cX10_triangle 4 = .ok (.iload_n 1, 1) := by decide +kernel
theorem dX10_triangle_5 : decode cX10_triangle 5 = .ok (.aload_n 0, 1) := by decide +kernel
theorem dX10_triangle_6 : decode cX10_triangle 6 = .ok (.getfield 84, 3) := by decide +kernel
theorem dX10_triangle_9 : decode cX10_triangle 9 = .ok (.invokevirtual 138, 3) := by decide +kernel
theorem dX10_triangle_12 : decode cX10_triangle 12 = .ok (.iconst 2, 1) := by decide +kernel
theorem dX10_triangle_13 : decode cX10_triangle 13 = .ok (.isub, 1) := by decide +kernel
theorem dX10_triangle_14 : decode cX10_triangle 14 = .ok (.if_icmp .ge 12, 3) := by decide +kernel
theorem dX10_triangle_17 : decode cX10_triangle 17 = .ok (.iload_n 2, 1) := by decide +kernel
theorem dX10_triangle_18 : decode cX10_triangle 18 = .ok (.ifCond .lt 8, 3) := by decide +kernel
theorem dX10_triangle_21 : decode cX10_triangle 21 = .ok (.iload_n 2, 1) := by decide +kernel
theorem dX10_triangle_22 : decode cX10_triangle 22 = .ok (.iconst 2, 1) := by decide +kernel
theorem dX10_triangle_23 : decode cX10_triangle 23 = .ok (.if_icmp .le 6, 3) := by decide +kernel
theorem dX10_triangle_26 : decode cX10_triangle 26 = .ok (.bipush (-2), 2) := by decide +kernel
theorem dX10_triangle_28 : decode cX10_triangle 28 = .ok (.ireturn, 1) := by decide +kernel
theorem dX10_triangle_29 : decode cX10_triangle 29 = .ok (.aload_n 0, 1) := by decide +kernel
theorem dX10_triangle_30 : decode cX10_triangle 30 = .ok (.getfield 33, 3) := by decide +kernel
theorem dX10_triangle_33 : decode cX10_triangle 33 = .ok (.aload_n 0, 1) := by decide +kernel
theorem dX10_triangle_34 : decode cX10_triangle 34 = .ok (.getfield 84, 3) := by decide +kernel
theorem dX10_triangle_37 : decode cX10_triangle 37 = .ok (.aload_n 0, 1) := by decide +kernel
theorem dX10_triangle_38 : decode cX10_triangle 38 = .ok (.getfield 94, 3) := by decide +kernel
theorem dX10_triangle_41 : decode cX10_triangle 41 = .ok (.invokevirtual 145, 3) := by decide +kernel
theorem dX10_triangle_44 : decode cX10_triangle 44 = .ok (.aload_n 0, 1) := by decide +kernel
theorem dX10_triangle_45 : decode cX10_triangle 45 = .ok (.getfield 33, 3) := by decide +kernel
theorem dX10_triangle_48 : decode cX10_triangle 48 = .ok (.iload_n 1, 1) := by decide +kernel
theorem dX10_triangle_49 : decode cX10_triangle 49 = .ok (.iload_n 2, 1) := by decide +kernel
theorem dX10_triangle_50 : decode cX10_triangle 50 = .ok (.invokevirtual 148, 3) := by decide +kernel
theorem dX10_triangle_53 : decode cX10_triangle 53 = .ok (.ireturn, 1) := by decide +kernel
theorem dX10_entry_0 : decode cX10_entry 0 = .ok (.aload_n 0, 1) := by decide +kernel
theorem dX10_entry_1 : decode cX10_entry 1 = .ok (.iload_n 1, 1) := by decide +kernel
theorem dX10_entry_2 : decode cX10_entry 2 = .ok (.iload_n 2, 1) := by decide +kernel
theorem dX10_entry_3 : decode cX10_entry 3 = .ok (.invokevirtual 152, 3) := by decide +kernel
theorem dX10_entry_6 : decode cX10_entry 6 = .ok (.ifCond .eq 19, 3) := by decide +kernel
theorem dX10_entry_9 : decode cX10_entry 9 = .ok (.aload_n 0, 1) := by decide +kernel
theorem dX10_entry_10 : decode cX10_entry 10 = .ok (.getfield 84, 3) := by decide +kernel
theorem dX10_entry_13 : decode cX10_entry 13 = .ok (.aload_n 0, 1) := by decide +kernel
theorem dX10_entry_14 : decode cX10_entry 14 = .ok (.getfield 94, 3) := by decide +kernel
theorem dX10_entry_17 : decode cX10_entry 17 = .ok (.iload_n 1, 1) := by decide +kernel
theorem dX10_entry_18 : decode cX10_entry 18 = .ok (.iload_n 2, 1) := by decide +kernel
theorem dX10_entry_19 : decode cX10_entry 19 = .ok (.invokevirtual 156, 3) := by decide +kernel
theorem dX10_entry_22 : decode cX10_entry 22 = .ok (.goto 5, 3) := by decide +kernel
theorem dX10_entry_25 : decode cX10_entry 25 = .ok (.bipush (-2), 2) := by decide +kernel
theorem dX10_entry_27 : decode cX10_entry 27 = .ok (.ireturn, 1) := by decide +kernel
theorem dX10_row_0 : decode cX10_row 0 = .ok (.aload_n 0, 1) := by decide +kernel
theorem dX10_row_1 : decode cX10_row 1 = .ok (.getfield 84, 3) := by decide +kernel
theorem dX10_row_4 : decode cX10_row 4 = .ok (.iload_n 1, 1) := by decide +kernel
theorem dX10_row_5 : decode cX10_row 5 = .ok (.invokevirtual 160, 3) := by decide +kernel
theorem dX10_row_8 : decode cX10_row 8 = .ok (.ifCond .eq 18, 3) := by decide +kernel
theorem dX10_row_11 : decode cX10_row 11 = .ok (.aload_n 0, 1) := by decide +kernel
theorem dX10_row_12 : decode cX10_row 12 = .ok (.getfield 84, 3) := by decide +kernel
theorem dX10_row_15 : decode cX10_row 15 = .ok (.aload_n 0, 1) := by decide +kernel
theorem dX10_row_16 : decode cX10_row 16 = .ok (.getfield 94, 3) := by decide +kernel
theorem dX10_row_19 : decode cX10_row 19 = .ok (.iload_n 1, 1) := by decide +kernel
theorem dX10_row_20 : decode cX10_row 20 = .ok (.invokevirtual 163, 3) := by decide +kernel
theorem dX10_row_23 : decode cX10_row 23 = .ok (.goto 5, 3) := by decide +kernel
theorem dX10_row_26 : decode cX10_row 26 = .ok (.bipush (-2), 2) := by decide +kernel
theorem dX10_row_28 : decode cX10_row 28 = .ok (.ireturn, 1) := by decide +kernel
theorem dX10_way_0 : decode cX10_way 0 = .ok (.aload_n 0, 1) := by decide +kernel
theorem dX10_way_1 : decode cX10_way 1 = .ok (.iload_n 1, 1) := by decide +kernel
theorem dX10_way_2 : decode cX10_way 2 = .ok (.iload_n 2, 1) := by decide +kernel
theorem dX10_way_3 : decode cX10_way 3 = .ok (.invokevirtual 152, 3) := by decide +kernel
theorem dX10_way_6 : decode cX10_way 6 = .ok (.ifCond .eq 15, 3) := by decide +kernel
theorem dX10_way_9 : decode cX10_way 9 = .ok (.aload_n 0, 1) := by decide +kernel
theorem dX10_way_10 : decode cX10_way 10 = .ok (.getfield 84, 3) := by decide +kernel
theorem dX10_way_13 : decode cX10_way 13 = .ok (.iload 4, 2) := by decide +kernel
theorem dX10_way_15 : decode cX10_way 15 = .ok (.invokevirtual 160, 3) := by decide +kernel
theorem dX10_way_18 : decode cX10_way 18 = .ok (.ifCond .ne 6, 3) := by decide +kernel
theorem dX10_way_21 : decode cX10_way 21 = .ok (.bipush (-2), 2) := by decide +kernel
theorem dX10_way_23 : decode cX10_way 23 = .ok (.ireturn, 1) := by decide +kernel
theorem dX10_way_24 : decode cX10_way 24 = .ok (.iload_n 3, 1) := by decide +kernel
theorem dX10_way_25 : decode cX10_way 25 = .ok (.ifCond .lt 20, 3) := by decide +kernel
theorem dX10_way_28 : decode cX10_way 28 = .ok (.iload_n 3, 1) := by decide +kernel
theorem dX10_way_29 : decode cX10_way 29 = .ok (.aload_n 0, 1) := by decide +kernel
theorem dX10_way_30 : decode cX10_way 30 = .ok (.getfield 84, 3) := by decide +kernel
theorem dX10_way_33 : decode cX10_way 33 = .ok (.aload_n 0, 1) := by decide +kernel
theorem dX10_way_34 : decode cX10_way 34 = .ok (.getfield 94, 3) := by decide +kernel
theorem dX10_way_37 : decode cX10_way 37 = .ok (.iload_n 1, 1) := by decide +kernel
theorem dX10_way_38 : decode cX10_way 38 = .ok (.iload_n 2, 1) := by decide +kernel
theorem dX10_way_39 : decode cX10_way 39 = .ok (.invokevirtual 156, 3) := by decide +kernel
theorem dX10_way_42 : decode cX10_way 42 = .ok (.if_icmp .lt 6, 3) := by decide +kernel
theorem dX10_way_45 : decode cX10_way 45 = .ok (.bipush (-2), 2) := by decide +kernel
theorem dX10_way_47 : decode cX10_way 47 = .ok (.ireturn, 1) := by decide +kernel
theorem dX10_way_48 : decode cX10_way 48 = .ok (.aload_n 0, 1) := by decide +kernel
theorem dX10_way_49 : decode cX10_way 49 = .ok (.getfield 84, 3) := by decide +kernel
theorem dX10_way_52 : decode cX10_way 52 = .ok (.iload_n 1, 1) := by decide +kernel
theorem dX10_way_53 : decode cX10_way 53 = .ok (.iload 4, 2) := by decide +kernel
theorem dX10_way_55 : decode cX10_way 55 = .ok (.invokevirtual 166, 3) := by decide +kernel
theorem dX10_way_58 : decode cX10_way 58 = .ok (.iconst 1, 1) := by decide +kernel
theorem dX10_way_59 : decode cX10_way 59 = .ok (.isub, 1) := by decide +kernel
theorem dX10_way_60 : decode cX10_way 60 = .ok (.istore 5, 2) := by decide +kernel
theorem dX10_way_62 : decode cX10_way 62 = .ok (.iload 5, 2) := by decide +kernel
theorem dX10_way_64 : decode cX10_way 64 = .ok (.ifCond .lt 19, 3) := by decide +kernel
theorem dX10_way_67 : decode cX10_way 67 = .ok (.iload 5, 2) := by decide +kernel
theorem dX10_way_69 : decode cX10_way 69 = .ok (.aload_n 0, 1) := by decide +kernel
theorem dX10_way_70 : decode cX10_way 70 = .ok (.getfield 84, 3) := by decide +kernel
theorem dX10_way_73 : decode cX10_way 73 = .ok (.iload_n 1, 1) := by decide +kernel
theorem dX10_way_74 : decode cX10_way 74 = .ok (.iload_n 2, 1) := by decide +kernel
theorem dX10_way_75 : decode cX10_way 75 = .ok (.invokevirtual 166, 3) := by decide +kernel
theorem dX10_way_78 : decode cX10_way 78 = .ok (.iconst 1, 1) := by decide +kernel
theorem dX10_way_79 : decode cX10_way 79 = .ok (.isub, 1) := by decide +kernel
theorem dX10_way_80 : decode cX10_way 80 = .ok (.if_icmp .lt 5, 3) := by decide +kernel
theorem dX10_way_83 : decode cX10_way 83 = .ok (.iconst (-1), 1) := by decide +kernel
theorem dX10_way_84 : decode cX10_way 84 = .ok (.ireturn, 1) := by decide +kernel
theorem dX10_way_85 : decode cX10_way 85 = .ok (.aload_n 0, 1) := by decide +kernel
theorem dX10_way_86 : decode cX10_way 86 = .ok (.getfield 33, 3) := by decide +kernel
theorem dX10_way_89 : decode cX10_way 89 = .ok (.aload_n 0, 1) := by decide +kernel
theorem dX10_way_90 : decode cX10_way 90 = .ok (.getfield 84, 3) := by decide +kernel
theorem dX10_way_93 : decode cX10_way 93 = .ok (.aload_n 0, 1) := by decide +kernel
theorem dX10_way_94 : decode cX10_way 94 = .ok (.getfield 94, 3) := by decide +kernel
theorem dX10_way_97 : decode cX10_way 97 = .ok (.invokevirtual 145, 3) := by decide +kernel
theorem dX10_way_100 : decode cX10_way 100 = .ok (.aload_n 0, 1) := by decide +kernel
theorem dX10_way_101 : decode cX10_way 101 = .ok (.getfield 33, 3) := by decide +kernel
theorem dX10_way_104 : decode cX10_way 104 = .ok (.aload_n 0, 1) := by decide +kernel
theorem dX10_way_105 : decode cX10_way 105 = .ok (.getfield 84, 3) := by decide +kernel
theorem dX10_way_108 : decode cX10_way 108 = .ok (.iload_n 1, 1) := by decide +kernel
theorem dX10_way_109 : decode cX10_way 109 = .ok (.iload_n 2, 1) := by decide +kernel
theorem dX10_way_110 : decode cX10_way 110 = .ok (.iload_n 3, 1) := by decide +kernel
theorem dX10_way_111 : decode cX10_way 111 = .ok (.iload 5, 2) := by decide +kernel
theorem dX10_way_113 : decode cX10_way 113 = .ok (.invokevirtual 169, 3) := by decide +kernel
theorem dX10_way_116 : decode cX10_way 116 = .ok (.ireturn, 1) := by decide +kernel
theorem dX10_flip_0 : decode cX10_flip 0 = .ok (.aload_n 0, 1) := by decide +kernel
theorem dX10_flip_1 : decode cX10_flip 1 = .ok (.iload_n 1, 1) := by decide +kernel
theorem dX10_flip_2 : decode cX10_flip 2 = .ok (.iload_n 2, 1) := by decide +kernel
theorem dX10_flip_3 : decode cX10_flip 3 = .ok (.invokevirtual 152, 3) := by decide +kernel
theorem dX10_flip_6 : decode cX10_flip 6 = .ok (.ifCond .ne 6, 3) := by decide +kernel
theorem dX10_flip_9 : decode cX10_flip 9 = .ok (.bipush (-2), 2) := by decide +kernel
theorem dX10_flip_11 : decode cX10_flip 11 = .ok (.ireturn, 1) := by decide +kernel
theorem dX10_flip_12 : decode cX10_flip 12 = .ok (.aload_n 0, 1) := by decide +kernel
theorem dX10_flip_13 : decode cX10_flip 13 = .ok (.getfield 84, 3) := by decide +kernel
theorem dX10_flip_16 : decode cX10_flip 16 = .ok (.iload_n 1, 1) := by decide +kernel
theorem dX10_flip_17 : decode cX10_flip 17 = .ok (.iload_n 2, 1) := by decide +kernel
theorem dX10_flip_18 : decode cX10_flip 18 = .ok (.invokevirtual 173, 3) := by decide +kernel
theorem dX10_flip_21 : decode cX10_flip 21 = .ok (.istore_n 3, 1) := by decide +kernel
theorem dX10_flip_22 : decode cX10_flip 22 = .ok (.aload_n 0, 1) := by decide +kernel
theorem dX10_flip_23 : decode cX10_flip 23 = .ok (.getfield 84, 3) := by decide +kernel
theorem dX10_flip_26 : decode cX10_flip 26 = .ok (.aload_n 0, 1) := by decide +kernel
theorem dX10_flip_27 : decode cX10_flip 27 = .ok (.getfield 94, 3) := by decide +kernel
theorem dX10_flip_30 : decode cX10_flip 30 = .ok (.iload_n 3, 1) := by decide +kernel
theorem dX10_flip_31 : decode cX10_flip 31 = .ok (.invokevirtual 176, 3) := by decide +kernel
theorem dX10_flip_34 : decode cX10_flip 34 = .ok (.ifCond .ne 5, 3) := by decide +kernel
theorem dX10_flip_37 : decode cX10_flip 37 = .ok (.iconst (-1), 1) := by decide +kernel
theorem dX10_flip_38 : decode cX10_flip 38 = .ok (.ireturn, 1) := by decide +kernel
theorem dX10_flip_39 : decode cX10_flip 39 = .ok (.aload_n 0, 1) := by decide +kernel
theorem dX10_flip_40 : decode cX10_flip 40 = .ok (.getfield 84, 3) := by decide +kernel
theorem dX10_flip_43 : decode cX10_flip 43 = .ok (.aload_n 0, 1) := by decide +kernel
theorem dX10_flip_44 : decode cX10_flip 44 = .ok (.getfield 94, 3) := by decide +kernel
theorem dX10_flip_47 : decode cX10_flip 47 = .ok (.iload_n 3, 1) := by decide +kernel
theorem dX10_flip_48 : decode cX10_flip 48 = .ok (.invokevirtual 179, 3) := by decide +kernel
theorem dX10_flip_51 : decode cX10_flip 51 = .ok (.istore 4, 2) := by decide +kernel
theorem dX10_flip_53 : decode cX10_flip 53 = .ok (.aload_n 0, 1) := by decide +kernel
theorem dX10_flip_54 : decode cX10_flip 54 = .ok (.aload_n 0, 1) := by decide +kernel
theorem dX10_flip_55 : decode cX10_flip 55 = .ok (.getfield 94, 3) := by decide +kernel
theorem dX10_flip_58 : decode cX10_flip 58 = .ok (.iconst 1, 1) := by decide +kernel
theorem dX10_flip_59 : decode cX10_flip 59 = .ok (.iload_n 3, 1) := by decide +kernel
theorem dX10_flip_60 : decode cX10_flip 60 = .ok (.ishl, 1) := by decide +kernel
theorem dX10_flip_61 : decode cX10_flip 61 = .ok (.iconst (-1), 1) := by decide +kernel
theorem dX10_flip_62 : decode cX10_flip 62 = .ok (.ixor, 1) := by decide +kernel
theorem dX10_flip_63 : decode cX10_flip 63 = .ok (.iand, 1) := by decide +kernel
theorem dX10_flip_64 : decode cX10_flip 64 = .ok (.iconst 1, 1) := by decide +kernel
theorem dX10_flip_65 : decode cX10_flip 65 = .ok (.iload 4, 2) := by decide +kernel
theorem dX10_flip_67 : decode cX10_flip 67 = .ok (.ishl, 1) := by decide +kernel
theorem dX10_flip_68 : decode cX10_flip 68 = .ok (.ior, 1) := by decide +kernel
theorem dX10_flip_69 : decode cX10_flip 69 = .ok (.putfield 94, 3) := by decide +kernel
theorem dX10_flip_72 : decode cX10_flip 72 = .ok (.aload_n 0, 1) := by decide +kernel
theorem dX10_flip_73 : decode cX10_flip 73 = .ok (.getfield 84, 3) := by decide +kernel
theorem dX10_flip_76 : decode cX10_flip 76 = .ok (.iload 4, 2) := by decide +kernel
theorem dX10_flip_78 : decode cX10_flip 78 = .ok (.invokevirtual 182, 3) := by decide +kernel
theorem dX10_flip_81 : decode cX10_flip 81 = .ok (.ireturn, 1) := by decide +kernel
theorem dX10_fewest_0 : decode cX10_fewest 0 = .ok (.aload_n 0, 1) := by decide +kernel
theorem dX10_fewest_1 : decode cX10_fewest 1 = .ok (.getfield 84, 3) := by decide +kernel
theorem dX10_fewest_4 : decode cX10_fewest 4 = .ok (.iload_n 1, 1) := by decide +kernel
theorem dX10_fewest_5 : decode cX10_fewest 5 = .ok (.invokevirtual 134, 3) := by decide +kernel
theorem dX10_fewest_8 : decode cX10_fewest 8 = .ok (.ifCond .ne 6, 3) := by decide +kernel
theorem dX10_fewest_11 : decode cX10_fewest 11 = .ok (.bipush (-2), 2) := by decide +kernel
theorem dX10_fewest_13 : decode cX10_fewest 13 = .ok (.ireturn, 1) := by decide +kernel
theorem dX10_fewest_14 : decode cX10_fewest 14 = .ok (.aload_n 0, 1) := by decide +kernel
theorem dX10_fewest_15 : decode cX10_fewest 15 = .ok (.getfield 47, 3) := by decide +kernel
theorem dX10_fewest_18 : decode cX10_fewest 18 = .ok (.aload_n 0, 1) := by decide +kernel
theorem dX10_fewest_19 : decode cX10_fewest 19 = .ok (.getfield 84, 3) := by decide +kernel
theorem dX10_fewest_22 : decode cX10_fewest 22 = .ok (.aload_n 0, 1) := by decide +kernel
theorem dX10_fewest_23 : decode cX10_fewest 23 = .ok (.getfield 84, 3) := by decide +kernel
theorem dX10_fewest_26 : decode cX10_fewest 26 = .ok (.aload_n 0, 1) := by decide +kernel
theorem dX10_fewest_27 : decode cX10_fewest 27 = .ok (.getfield 94, 3) := by decide +kernel
theorem dX10_fewest_30 : decode cX10_fewest 30 = .ok (.invokevirtual 125, 3) := by decide +kernel
theorem dX10_fewest_33 : decode cX10_fewest 33 = .ok (.iload_n 1, 1) := by decide +kernel
theorem dX10_fewest_34 : decode cX10_fewest 34 = .ok (.invokevirtual 185, 3) := by decide +kernel
theorem dX10_fewest_37 : decode cX10_fewest 37 = .ok (.ireturn, 1) := by decide +kernel
theorem dX10_passed_0 : decode cX10_passed 0 = .ok (.aload_n 0, 1) := by decide +kernel
theorem dX10_passed_1 : decode cX10_passed 1 = .ok (.getfield 47, 3) := by decide +kernel
theorem dX10_passed_4 : decode cX10_passed 4 = .ok (.iload_n 1, 1) := by decide +kernel
theorem dX10_passed_5 : decode cX10_passed 5 = .ok (.invokevirtual 189, 3) := by decide +kernel
theorem dX10_passed_8 : decode cX10_passed 8 = .ok (.ireturn, 1) := by decide +kernel
theorem dX10_farthest_0 : decode cX10_farthest 0 = .ok (.iload_n 1, 1) := by decide +kernel
theorem dX10_farthest_1 : decode cX10_farthest 1 = .ok (.ifCond .eq 10, 3) := by decide +kernel
theorem dX10_farthest_4 : decode cX10_farthest 4 = .ok (.iload_n 1, 1) := by decide +kernel
theorem dX10_farthest_5 : decode cX10_farthest 5 = .ok (.iconst 1, 1) := by decide +kernel
theorem dX10_farthest_6 : decode cX10_farthest 6 = .ok (.if_icmp .eq 5, 3) := by decide +kernel
theorem dX10_farthest_9 : decode cX10_farthest 9 = .ok (.iconst (-1), 1) := by decide +kernel
theorem dX10_farthest_10 : decode cX10_farthest 10 = .ok (.ireturn, 1) := by decide +kernel
theorem dX10_farthest_11 : decode cX10_farthest 11 = .ok (.aload_n 0, 1) := by decide +kernel
theorem dX10_farthest_12 : decode cX10_farthest 12 = .ok (.getfield 47, 3) := by decide +kernel
theorem dX10_farthest_15 : decode cX10_farthest 15 = .ok (.aload_n 0, 1) := by decide +kernel
theorem dX10_farthest_16 : decode cX10_farthest 16 = .ok (.getfield 84, 3) := by decide +kernel
theorem dX10_farthest_19 : decode cX10_farthest 19 = .ok (.aload_n 0, 1) := by decide +kernel
theorem dX10_farthest_20 : decode cX10_farthest 20 = .ok (.getfield 84, 3) := by decide +kernel
theorem dX10_farthest_23 : decode cX10_farthest 23 = .ok (.aload_n 0, 1) := by decide +kernel
theorem dX10_farthest_24 : decode cX10_farthest 24 = .ok (.getfield 94, 3) := by decide +kernel
theorem dX10_farthest_27 : decode cX10_farthest 27 = .ok (.invokevirtual 125, 3) := by decide +kernel
theorem dX10_farthest_30 : decode cX10_farthest 30 = .ok (.invokevirtual 191, 3) := by decide +kernel
theorem dX10_farthest_33 : decode cX10_farthest 33 = .ok (.aload_n 0, 1) := by decide +kernel
theorem dX10_farthest_34 : decode cX10_farthest 34 = .ok (.getfield 47, 3) := by decide +kernel
theorem dX10_farthest_37 : decode cX10_farthest 37 = .ok (.aload_n 0, 1) := by decide +kernel
theorem dX10_farthest_38 : decode cX10_farthest 38 = .ok (.getfield 84, 3) := by decide +kernel
theorem dX10_farthest_41 : decode cX10_farthest 41 = .ok (.invokevirtual 194, 3) := by decide +kernel
theorem dX10_farthest_44 : decode cX10_farthest 44 = .ok (.istore_n 2, 1) := by decide +kernel
theorem dX10_farthest_45 : decode cX10_farthest 45 = .ok (.iload_n 1, 1) := by decide +kernel
theorem dX10_farthest_46 : decode cX10_farthest 46 = .ok (.ifCond .ne 7, 3) := by decide +kernel
theorem dX10_farthest_49 : decode cX10_farthest 49 = .ok (.iload_n 2, 1) := by decide +kernel
theorem dX10_farthest_50 : decode cX10_farthest 50 = .ok (.goto 15, 3) := by decide +kernel
theorem dX10_farthest_53 : decode cX10_farthest 53 = .ok (.aload_n 0, 1) := by decide +kernel
theorem dX10_farthest_54 : decode cX10_farthest 54 = .ok (.getfield 47, 3) := by decide +kernel
theorem dX10_farthest_57 : decode cX10_farthest 57 = .ok (.aload_n 0, 1) := by decide +kernel
theorem dX10_farthest_58 : decode cX10_farthest 58 = .ok (.getfield 84, 3) := by decide +kernel
theorem dX10_farthest_61 : decode cX10_farthest 61 = .ok (.iload_n 2, 1) := by decide +kernel
theorem dX10_farthest_62 : decode cX10_farthest 62 = .ok (.invokevirtual 198, 3) := by decide +kernel
theorem dX10_farthest_65 : decode cX10_farthest 65 = .ok (.ireturn, 1) := by decide +kernel
theorem dX10_least_0 : decode cX10_least 0 = .ok (.aload_n 0, 1) := by decide +kernel
theorem dX10_least_1 : decode cX10_least 1 = .ok (.getfield 84, 3) := by decide +kernel
theorem dX10_least_4 : decode cX10_least 4 = .ok (.aload_n 0, 1) := by decide +kernel
theorem dX10_least_5 : decode cX10_least 5 = .ok (.getfield 84, 3) := by decide +kernel
theorem dX10_least_8 : decode cX10_least 8 = .ok (.aload_n 0, 1) := by decide +kernel
theorem dX10_least_9 : decode cX10_least 9 = .ok (.getfield 94, 3) := by decide +kernel
theorem dX10_least_12 : decode cX10_least 12 = .ok (.iload_n 1, 1) := by decide +kernel
theorem dX10_least_13 : decode cX10_least 13 = .ok (.invokevirtual 202, 3) := by decide +kernel
theorem dX10_least_16 : decode cX10_least 16 = .ok (.invokevirtual 125, 3) := by decide +kernel
theorem dX10_least_19 : decode cX10_least 19 = .ok (.ireturn, 1) := by decide +kernel
theorem dX10_kinds_0 : decode cX10_kinds 0 = .ok (.aload_n 0, 1) := by decide +kernel
theorem dX10_kinds_1 : decode cX10_kinds 1 = .ok (.getfield 19, 3) := by decide +kernel
theorem dX10_kinds_4 : decode cX10_kinds 4 = .ok (.iload_n 1, 1) := by decide +kernel
theorem dX10_kinds_5 : decode cX10_kinds 5 = .ok (.invokevirtual 80, 3) := by decide +kernel
theorem dX10_kinds_8 : decode cX10_kinds 8 = .ok (.astore_n 3, 1) := by decide +kernel
theorem dX10_kinds_9 : decode cX10_kinds 9 = .ok (.aload_n 3, 1) := by decide +kernel
theorem dX10_kinds_10 : decode cX10_kinds 10 = .ok (.ifnonnull 8, 3) := by decide +kernel
theorem dX10_kinds_13 : decode cX10_kinds 13 = .ok (.bipush (-2), 2) := by decide +kernel
theorem dX10_kinds_15 : decode cX10_kinds 15 = .ok (.goto 8, 3) := by decide +kernel
theorem dX10_kinds_18 : decode cX10_kinds 18 = .ok (.aload_n 3, 1) := by decide +kernel
theorem dX10_kinds_19 : decode cX10_kinds 19 = .ok (.iload_n 2, 1) := by decide +kernel
theorem dX10_kinds_20 : decode cX10_kinds 20 = .ok (.invokevirtual 206, 3) := by decide +kernel
theorem dX10_kinds_23 : decode cX10_kinds 23 = .ok (.ireturn, 1) := by decide +kernel
theorem dX10_read_0 : decode cX10_read 0 = .ok (.aload_n 0, 1) := by decide +kernel
theorem dX10_read_1 : decode cX10_read 1 = .ok (.invokevirtual 210, 3) := by decide +kernel
theorem dX10_read_4 : decode cX10_read 4 = .ok (.ifCond .ne 6, 3) := by decide +kernel
theorem dX10_read_7 : decode cX10_read 7 = .ok (.bipush (-2), 2) := by decide +kernel
theorem dX10_read_9 : decode cX10_read 9 = .ok (.ireturn, 1) := by decide +kernel
theorem dX10_read_10 : decode cX10_read 10 = .ok (.aload_n 0, 1) := by decide +kernel
theorem dX10_read_11 : decode cX10_read 11 = .ok (.getfield 84, 3) := by decide +kernel
theorem dX10_read_14 : decode cX10_read 14 = .ok (.aload_n 0, 1) := by decide +kernel
theorem dX10_read_15 : decode cX10_read 15 = .ok (.getfield 72, 3) := by decide +kernel
theorem dX10_read_18 : decode cX10_read 18 = .ok (.invokevirtual 213, 3) := by decide +kernel
theorem dX10_read_21 : decode cX10_read 21 = .ok (.istore_n 1, 1) := by decide +kernel
theorem dX10_read_22 : decode cX10_read 22 = .ok (.aload_n 0, 1) := by decide +kernel
theorem dX10_read_23 : decode cX10_read 23 = .ok (.getfield 84, 3) := by decide +kernel
theorem dX10_read_26 : decode cX10_read 26 = .ok (.aload_n 0, 1) := by decide +kernel
theorem dX10_read_27 : decode cX10_read 27 = .ok (.getfield 72, 3) := by decide +kernel
theorem dX10_read_30 : decode cX10_read 30 = .ok (.aload_n 0, 1) := by decide +kernel
theorem dX10_read_31 : decode cX10_read 31 = .ok (.getfield 84, 3) := by decide +kernel
theorem dX10_read_34 : decode cX10_read 34 = .ok (.iload_n 1, 1) := by decide +kernel
theorem dX10_read_35 : decode cX10_read 35 = .ok (.invokevirtual 88, 3) := by decide +kernel
theorem dX10_read_38 : decode cX10_read 38 = .ok (.invokevirtual 217, 3) := by decide +kernel
theorem dX10_read_41 : decode cX10_read 41 = .ok (.ifCond .eq 5, 3) := by decide +kernel
theorem dX10_read_44 : decode cX10_read 44 = .ok (.iconst (-1), 1) := by decide +kernel
theorem dX10_read_45 : decode cX10_read 45 = .ok (.ireturn, 1) := by decide +kernel
theorem dX10_read_46 : decode cX10_read 46 = .ok (.aload_n 0, 1) := by decide +kernel
theorem dX10_read_47 : decode cX10_read 47 = .ok (.aload_n 0, 1) := by decide +kernel
theorem dX10_read_48 : decode cX10_read 48 = .ok (.getfield 84, 3) := by decide +kernel
theorem dX10_read_51 : decode cX10_read 51 = .ok (.iload_n 1, 1) := by decide +kernel
theorem dX10_read_52 : decode cX10_read 52 = .ok (.invokevirtual 88, 3) := by decide +kernel
theorem dX10_read_55 : decode cX10_read 55 = .ok (.putfield 94, 3) := by decide +kernel
theorem dX10_read_58 : decode cX10_read 58 = .ok (.iload_n 1, 1) := by decide +kernel
theorem dX10_read_59 : decode cX10_read 59 = .ok (.ireturn, 1) := by decide +kernel
theorem dX10_mend_0 : decode cX10_mend 0 = .ok (.aload_n 0, 1) := by decide +kernel
theorem dX10_mend_1 : decode cX10_mend 1 = .ok (.invokevirtual 210, 3) := by decide +kernel
theorem dX10_mend_4 : decode cX10_mend 4 = .ok (.ifCond .ne 6, 3) := by decide +kernel
theorem dX10_mend_7 : decode cX10_mend 7 = .ok (.bipush (-2), 2) := by decide +kernel
theorem dX10_mend_9 : decode cX10_mend 9 = .ok (.ireturn, 1) := by decide +kernel
theorem dX10_mend_10 : decode cX10_mend 10 = .ok (.aload_n 0, 1) := by decide +kernel
theorem dX10_mend_11 : decode cX10_mend 11 = .ok (.aload_n 0, 1) := by decide +kernel
theorem dX10_mend_12 : decode cX10_mend 12 = .ok (.getfield 84, 3) := by decide +kernel
theorem dX10_mend_15 : decode cX10_mend 15 = .ok (.aload_n 0, 1) := by decide +kernel
theorem dX10_mend_16 : decode cX10_mend 16 = .ok (.getfield 72, 3) := by decide +kernel
theorem dX10_mend_19 : decode cX10_mend 19 = .ok (.invokevirtual 213, 3) := by decide +kernel
theorem dX10_mend_22 : decode cX10_mend 22 = .ok (.putfield 76, 3) := by decide +kernel
theorem dX10_mend_25 : decode cX10_mend 25 = .ok (.aload_n 0, 1) := by decide +kernel
theorem dX10_mend_26 : decode cX10_mend 26 = .ok (.getfield 84, 3) := by decide +kernel
theorem dX10_mend_29 : decode cX10_mend 29 = .ok (.aload_n 0, 1) := by decide +kernel
theorem dX10_mend_30 : decode cX10_mend 30 = .ok (.getfield 72, 3) := by decide +kernel
theorem dX10_mend_33 : decode cX10_mend 33 = .ok (.aload_n 0, 1) := by decide +kernel
theorem dX10_mend_34 : decode cX10_mend 34 = .ok (.getfield 84, 3) := by decide +kernel
theorem dX10_mend_37 : decode cX10_mend 37 = .ok (.aload_n 0, 1) := by decide +kernel
theorem dX10_mend_38 : decode cX10_mend 38 = .ok (.getfield 76, 3) := by decide +kernel
theorem dX10_mend_41 : decode cX10_mend 41 = .ok (.invokevirtual 88, 3) := by decide +kernel
theorem dX10_mend_44 : decode cX10_mend 44 = .ok (.invokevirtual 217, 3) := by decide +kernel
theorem dX10_mend_47 : decode cX10_mend 47 = .ok (.ireturn, 1) := by decide +kernel
theorem dX10_mended_0 : decode cX10_mended 0 = .ok (.aload_n 0, 1) := by decide +kernel
theorem dX10_mended_1 : decode cX10_mended 1 = .ok (.getfield 76, 3) := by decide +kernel
theorem dX10_mended_4 : decode cX10_mended 4 = .ok (.ireturn, 1) := by decide +kernel
theorem dX10_crossed_0 : decode cX10_crossed 0 = .ok (.aload_n 0, 1) := by decide +kernel
theorem dX10_crossed_1 : decode cX10_crossed 1 = .ok (.iload_n 1, 1) := by decide +kernel
theorem dX10_crossed_2 : decode cX10_crossed 2 = .ok (.iload_n 2, 1) := by decide +kernel
theorem dX10_crossed_3 : decode cX10_crossed 3 = .ok (.invokevirtual 152, 3) := by decide +kernel
theorem dX10_crossed_6 : decode cX10_crossed 6 = .ok (.ifCond .eq 8, 3) := by decide +kernel
theorem dX10_crossed_9 : decode cX10_crossed 9 = .ok (.iload_n 1, 1) := by decide +kernel
theorem dX10_crossed_10 : decode cX10_crossed 10 = .ok (.iload_n 2, 1) := by decide +kernel
theorem dX10_crossed_11 : decode cX10_crossed 11 = .ok (.if_icmp .ne 6, 3) := by decide +kernel
theorem dX10_crossed_14 : decode cX10_crossed 14 = .ok (.bipush (-2), 2) := by decide +kernel
theorem dX10_crossed_16 : decode cX10_crossed 16 = .ok (.ireturn, 1) := by decide +kernel
theorem dX10_crossed_17 : decode cX10_crossed 17 = .ok (.aload_n 0, 1) := by decide +kernel
theorem dX10_crossed_18 : decode cX10_crossed 18 = .ok (.getfield 40, 3) := by decide +kernel
theorem dX10_crossed_21 : decode cX10_crossed 21 = .ok (.aload_n 0, 1) := by decide +kernel
theorem dX10_crossed_22 : decode cX10_crossed 22 = .ok (.getfield 84, 3) := by decide +kernel
theorem dX10_crossed_25 : decode cX10_crossed 25 = .ok (.aload_n 0, 1) := by decide +kernel
theorem dX10_crossed_26 : decode cX10_crossed 26 = .ok (.getfield 94, 3) := by decide +kernel
theorem dX10_crossed_29 : decode cX10_crossed 29 = .ok (.iload_n 1, 1) := by decide +kernel
theorem dX10_crossed_30 : decode cX10_crossed 30 = .ok (.iload_n 2, 1) := by decide +kernel
theorem dX10_crossed_31 : decode cX10_crossed 31 = .ok (.invokevirtual 221, 3) := by decide +kernel
theorem dX10_crossed_34 : decode cX10_crossed 34 = .ok (.iload_n 3, 1) := by decide +kernel
theorem dX10_crossed_35 : decode cX10_crossed 35 = .ok (.iconst (-1), 1) := by decide +kernel
theorem dX10_crossed_36 : decode cX10_crossed 36 = .ok (.if_icmp .ne 13, 3) := by decide +kernel
theorem dX10_crossed_39 : decode cX10_crossed 39 = .ok (.aload_n 0, 1) := by decide +kernel
theorem dX10_crossed_40 : decode cX10_crossed 40 = .ok (.getfield 40, 3) := by decide +kernel
theorem dX10_crossed_43 : decode cX10_crossed 43 = .ok (.invokevirtual 224, 3) := by decide +kernel
theorem dX10_crossed_46 : decode cX10_crossed 46 = .ok (.goto 15, 3) := by decide +kernel
theorem dX10_crossed_49 : decode cX10_crossed 49 = .ok (.aload_n 0, 1) := by decide +kernel
theorem dX10_crossed_50 : decode cX10_crossed 50 = .ok (.getfield 40, 3) := by decide +kernel
theorem dX10_crossed_53 : decode cX10_crossed 53 = .ok (.aload_n 0, 1) := by decide +kernel
theorem dX10_crossed_54 : decode cX10_crossed 54 = .ok (.getfield 84, 3) := by decide +kernel
theorem dX10_crossed_57 : decode cX10_crossed 57 = .ok (.iload_n 3, 1) := by decide +kernel
theorem dX10_crossed_58 : decode cX10_crossed 58 = .ok (.invokevirtual 225, 3) := by decide +kernel
theorem dX10_crossed_61 : decode cX10_crossed 61 = .ok (.ireturn, 1) := by decide +kernel
theorem dX10_side_0 : decode cX10_side 0 = .ok (.aload_n 0, 1) := by decide +kernel
theorem dX10_side_1 : decode cX10_side 1 = .ok (.iload_n 1, 1) := by decide +kernel
theorem dX10_side_2 : decode cX10_side 2 = .ok (.iload_n 2, 1) := by decide +kernel
theorem dX10_side_3 : decode cX10_side 3 = .ok (.invokevirtual 152, 3) := by decide +kernel
theorem dX10_side_6 : decode cX10_side 6 = .ok (.ifCond .eq 8, 3) := by decide +kernel
theorem dX10_side_9 : decode cX10_side 9 = .ok (.iload_n 1, 1) := by decide +kernel
theorem dX10_side_10 : decode cX10_side 10 = .ok (.iload_n 2, 1) := by decide +kernel
theorem dX10_side_11 : decode cX10_side 11 = .ok (.if_icmp .ne 6, 3) := by decide +kernel
theorem dX10_side_14 : decode cX10_side 14 = .ok (.bipush (-2), 2) := by decide +kernel
theorem dX10_side_16 : decode cX10_side 16 = .ok (.ireturn, 1) := by decide +kernel
theorem dX10_side_17 : decode cX10_side 17 = .ok (.aload_n 0, 1) := by decide +kernel
theorem dX10_side_18 : decode cX10_side 18 = .ok (.getfield 40, 3) := by decide +kernel
theorem dX10_side_21 : decode cX10_side 21 = .ok (.aload_n 0, 1) := by decide +kernel
theorem dX10_side_22 : decode cX10_side 22 = .ok (.getfield 84, 3) := by decide +kernel
theorem dX10_side_25 : decode cX10_side 25 = .ok (.aload_n 0, 1) := by decide +kernel
theorem dX10_side_26 : decode cX10_side 26 = .ok (.getfield 94, 3) := by decide +kernel
theorem dX10_side_29 : decode cX10_side 29 = .ok (.iload_n 1, 1) := by decide +kernel
theorem dX10_side_30 : decode cX10_side 30 = .ok (.iload_n 2, 1) := by decide +kernel
theorem dX10_side_31 : decode cX10_side 31 = .ok (.invokevirtual 221, 3) := by decide +kernel
theorem dX10_side_34 : decode cX10_side 34 = .ok (.aload_n 0, 1) := by decide +kernel
theorem dX10_side_35 : decode cX10_side 35 = .ok (.getfield 40, 3) := by decide +kernel
theorem dX10_side_38 : decode cX10_side 38 = .ok (.aload_n 0, 1) := by decide +kernel
theorem dX10_side_39 : decode cX10_side 39 = .ok (.getfield 84, 3) := by decide +kernel
theorem dX10_side_42 : decode cX10_side 42 = .ok (.iload_n 3, 1) := by decide +kernel
theorem dX10_side_43 : decode cX10_side 43 = .ok (.invokevirtual 228, 3) := by decide +kernel
theorem dX10_side_46 : decode cX10_side 46 = .ok (.istore 4, 2) := by decide +kernel
theorem dX10_side_48 : decode cX10_side 48 = .ok (.iload 4, 2) := by decide +kernel
theorem dX10_side_50 : decode cX10_side 50 = .ok (.iconst (-1), 1) := by decide +kernel
theorem dX10_side_51 : decode cX10_side 51 = .ok (.if_icmp .ne 5, 3) := by decide +kernel
theorem dX10_side_54 : decode cX10_side 54 = .ok (.iconst (-1), 1) := by decide +kernel
theorem dX10_side_55 : decode cX10_side 55 = .ok (.ireturn, 1) := by decide +kernel
theorem dX10_side_56 : decode cX10_side 56 = .ok (.aload_n 0, 1) := by decide +kernel
theorem dX10_side_57 : decode cX10_side 57 = .ok (.getfield 84, 3) := by decide +kernel
theorem dX10_side_60 : decode cX10_side 60 = .ok (.iload_n 1, 1) := by decide +kernel
theorem dX10_side_61 : decode cX10_side 61 = .ok (.iload 4, 2) := by decide +kernel
theorem dX10_side_63 : decode cX10_side 63 = .ok (.invokevirtual 166, 3) := by decide +kernel
theorem dX10_side_66 : decode cX10_side 66 = .ok (.aload_n 0, 1) := by decide +kernel
theorem dX10_side_67 : decode cX10_side 67 = .ok (.getfield 84, 3) := by decide +kernel
theorem dX10_side_70 : decode cX10_side 70 = .ok (.iload_n 1, 1) := by decide +kernel
theorem dX10_side_71 : decode cX10_side 71 = .ok (.iload_n 2, 1) := by decide +kernel
theorem dX10_side_72 : decode cX10_side 72 = .ok (.invokevirtual 166, 3) := by decide +kernel
theorem dX10_side_75 : decode cX10_side 75 = .ok (.if_icmp .ge 7, 3) := by decide +kernel
theorem dX10_side_78 : decode cX10_side 78 = .ok (.iconst 0, 1) := by decide +kernel
theorem dX10_side_79 : decode cX10_side 79 = .ok (.goto 4, 3) := by decide +kernel
theorem dX10_side_82 : decode cX10_side 82 = .ok (.iconst 1, 1) := by decide +kernel
theorem dX10_side_83 : decode cX10_side 83 = .ok (.ireturn, 1) := by decide +kernel
theorem dX10_greatest_0 : decode cX10_greatest 0 = .ok (.aload_n 0, 1) := by decide +kernel
theorem dX10_greatest_1 : decode cX10_greatest 1 = .ok (.getfield 19, 3) := by decide +kernel
theorem dX10_greatest_4 : decode cX10_greatest 4 = .ok (.iload_n 1, 1) := by decide +kernel
theorem dX10_greatest_5 : decode cX10_greatest 5 = .ok (.invokevirtual 80, 3) := by decide +kernel
theorem dX10_greatest_8 : decode cX10_greatest 8 = .ok (.astore_n 3, 1) := by decide +kernel
theorem dX10_greatest_9 : decode cX10_greatest 9 = .ok (.aload_n 3, 1) := by decide +kernel
theorem dX10_greatest_10 : decode cX10_greatest 10 = .ok (.ifnull 12, 3) := by decide +kernel
theorem dX10_greatest_13 : decode cX10_greatest 13 = .ok (.iload_n 2, 1) := by decide +kernel
theorem dX10_greatest_14 : decode cX10_greatest 14 = .ok (.ifCond .lt 8, 3) := by decide +kernel
theorem dX10_greatest_17 : decode cX10_greatest 17 = .ok (.iload_n 2, 1) := by decide +kernel
theorem dX10_greatest_18 : decode cX10_greatest 18 = .ok (.iconst 1, 1) := by decide +kernel
theorem dX10_greatest_19 : decode cX10_greatest 19 = .ok (.if_icmp .le 6, 3) := by decide +kernel
theorem dX10_greatest_22 : decode cX10_greatest 22 = .ok (.bipush (-2), 2) := by decide +kernel
theorem dX10_greatest_24 : decode cX10_greatest 24 = .ok (.ireturn, 1) := by decide +kernel
theorem dX10_greatest_25 : decode cX10_greatest 25 = .ok (.aload_n 3, 1) := by decide +kernel
theorem dX10_greatest_26 : decode cX10_greatest 26 = .ok (.invokevirtual 231, 3) := by decide +kernel
theorem dX10_greatest_29 : decode cX10_greatest 29 = .ok (.istore 4, 2) := by decide +kernel
theorem dX10_greatest_31 : decode cX10_greatest 31 = .ok (.iload_n 2, 1) := by decide +kernel
theorem dX10_greatest_32 : decode cX10_greatest 32 = .ok (.iconst 1, 1) := by decide +kernel
theorem dX10_greatest_33 : decode cX10_greatest 33 = .ok (.if_icmp .ne 8, 3) := by decide +kernel
theorem dX10_greatest_36 : decode cX10_greatest 36 = .ok (.iload 4, 2) := by decide +kernel
theorem dX10_greatest_38 : decode cX10_greatest 38 = .ok (.goto 13, 3) := by decide +kernel
theorem dX10_greatest_41 : decode cX10_greatest 41 = .ok (.aload_n 3, 1) := by decide +kernel
theorem dX10_greatest_42 : decode cX10_greatest 42 = .ok (.aload_n 3, 1) := by decide +kernel
theorem dX10_greatest_43 : decode cX10_greatest 43 = .ok (.iload 4, 2) := by decide +kernel
theorem dX10_greatest_45 : decode cX10_greatest 45 = .ok (.invokevirtual 88, 3) := by decide +kernel
theorem dX10_greatest_48 : decode cX10_greatest 48 = .ok (.invokevirtual 234, 3) := by decide +kernel
theorem dX10_greatest_51 : decode cX10_greatest 51 = .ok (.ireturn, 1) := by decide +kernel
theorem dX10_spread_0 : decode cX10_spread 0 = .ok (.aload_n 0, 1) := by decide +kernel
theorem dX10_spread_1 : decode cX10_spread 1 = .ok (.iload_n 1, 1) := by decide +kernel
theorem dX10_spread_2 : decode cX10_spread 2 = .ok (.iload_n 2, 1) := by decide +kernel
theorem dX10_spread_3 : decode cX10_spread 3 = .ok (.invokevirtual 152, 3) := by decide +kernel
theorem dX10_spread_6 : decode cX10_spread 6 = .ok (.ifCond .eq 16, 3) := by decide +kernel
theorem dX10_spread_9 : decode cX10_spread 9 = .ok (.aload_n 0, 1) := by decide +kernel
theorem dX10_spread_10 : decode cX10_spread 10 = .ok (.getfield 84, 3) := by decide +kernel
theorem dX10_spread_13 : decode cX10_spread 13 = .ok (.iload_n 1, 1) := by decide +kernel
theorem dX10_spread_14 : decode cX10_spread 14 = .ok (.iload_n 2, 1) := by decide +kernel
theorem dX10_spread_15 : decode cX10_spread 15 = .ok (.iload_n 3, 1) := by decide +kernel
theorem dX10_spread_16 : decode cX10_spread 16 = .ok (.invokevirtual 237, 3) := by decide +kernel
theorem dX10_spread_19 : decode cX10_spread 19 = .ok (.goto 5, 3) := by decide +kernel
theorem dX10_spread_22 : decode cX10_spread 22 = .ok (.bipush (-2), 2) := by decide +kernel
theorem dX10_spread_24 : decode cX10_spread 24 = .ok (.ireturn, 1) := by decide +kernel
theorem dX10_period_0 : decode cX10_period 0 = .ok (.aload_n 0, 1) := by decide +kernel
theorem dX10_period_1 : decode cX10_period 1 = .ok (.getfield 10, 3) := by decide +kernel
theorem dX10_period_4 : decode cX10_period 4 = .ok (.aload_n 0, 1) := by decide +kernel
theorem dX10_period_5 : decode cX10_period 5 = .ok (.getfield 72, 3) := by decide +kernel
theorem dX10_period_8 : decode cX10_period 8 = .ok (.invokevirtual 240, 3) := by decide +kernel
theorem dX10_period_11 : decode cX10_period 11 = .ok (.istore_n 1, 1) := by decide +kernel
theorem dX10_period_12 : decode cX10_period 12 = .ok (.aload_n 0, 1) := by decide +kernel
theorem dX10_period_13 : decode cX10_period 13 = .ok (.getfield 10, 3) := by decide +kernel
theorem dX10_period_16 : decode cX10_period 16 = .ok (.iconst 0, 1) := by decide +kernel
theorem dX10_period_17 : decode cX10_period 17 = .ok (.invokevirtual 109, 3) := by decide +kernel
theorem dX10_period_20 : decode cX10_period 20 = .ok (.aload_n 0, 1) := by decide +kernel
theorem dX10_period_21 : decode cX10_period 21 = .ok (.getfield 54, 3) := by decide +kernel
theorem dX10_period_24 : decode cX10_period 24 = .ok (.aload_n 0, 1) := by decide +kernel
theorem dX10_period_25 : decode cX10_period 25 = .ok (.getfield 72, 3) := by decide +kernel
theorem dX10_period_28 : decode cX10_period 28 = .ok (.iload_n 1, 1) := by decide +kernel
theorem dX10_period_29 : decode cX10_period 29 = .ok (.invokevirtual 243, 3) := by decide +kernel
theorem dX10_period_32 : decode cX10_period 32 = .ok (.ifCond .eq 18, 3) := by decide +kernel
theorem dX10_period_35 : decode cX10_period 35 = .ok (.aload_n 0, 1) := by decide +kernel
theorem dX10_period_36 : decode cX10_period 36 = .ok (.getfield 54, 3) := by decide +kernel
theorem dX10_period_39 : decode cX10_period 39 = .ok (.aload_n 0, 1) := by decide +kernel
theorem dX10_period_40 : decode cX10_period 40 = .ok (.getfield 72, 3) := by decide +kernel
theorem dX10_period_43 : decode cX10_period 43 = .ok (.iload_n 1, 1) := by decide +kernel
theorem dX10_period_44 : decode cX10_period 44 = .ok (.invokevirtual 247, 3) := by decide +kernel
theorem dX10_period_47 : decode cX10_period 47 = .ok (.goto 5, 3) := by decide +kernel
theorem dX10_period_50 : decode cX10_period 50 = .ok (.bipush (-2), 2) := by decide +kernel
theorem dX10_period_52 : decode cX10_period 52 = .ok (.ireturn, 1) := by decide +kernel
theorem dX10_ofCut_0 : decode cX10_ofCut 0 = .ok (.iconst 0, 1) := by decide +kernel
theorem dX10_ofCut_1 : decode cX10_ofCut 1 = .ok (.istore_n 1, 1) := by decide +kernel
theorem dX10_ofCut_2 : decode cX10_ofCut 2 = .ok (.iload_n 1, 1) := by decide +kernel
theorem dX10_ofCut_3 : decode cX10_ofCut 3 = .ok (.aload_n 0, 1) := by decide +kernel
theorem dX10_ofCut_4 : decode cX10_ofCut 4 = .ok (.getfield 84, 3) := by decide +kernel
theorem dX10_ofCut_7 : decode cX10_ofCut 7 = .ok (.invokevirtual 138, 3) := by decide +kernel
theorem dX10_ofCut_10 : decode cX10_ofCut 10 = .ok (.if_icmp .ge 27, 3) := by decide +kernel
theorem dX10_ofCut_13 : decode cX10_ofCut 13 = .ok (.aload_n 0, 1) := by decide +kernel
theorem dX10_ofCut_14 : decode cX10_ofCut 14 = .ok (.getfield 72, 3) := by decide +kernel
theorem dX10_ofCut_17 : decode cX10_ofCut 17 = .ok (.iload_n 1, 1) := by decide +kernel
theorem dX10_ofCut_18 : decode cX10_ofCut 18 = .ok (.aload_n 0, 1) := by decide +kernel
theorem dX10_ofCut_19 : decode cX10_ofCut 19 = .ok (.getfield 84, 3) := by decide +kernel
theorem dX10_ofCut_22 : decode cX10_ofCut 22 = .ok (.aload_n 0, 1) := by decide +kernel
theorem dX10_ofCut_23 : decode cX10_ofCut 23 = .ok (.getfield 94, 3) := by decide +kernel
theorem dX10_ofCut_26 : decode cX10_ofCut 26 = .ok (.iload_n 1, 1) := by decide +kernel
theorem dX10_ofCut_27 : decode cX10_ofCut 27 = .ok (.invokevirtual 163, 3) := by decide +kernel
theorem dX10_ofCut_30 : decode cX10_ofCut 30 = .ok (.iastore, 1) := by decide +kernel
theorem dX10_ofCut_31 : decode cX10_ofCut 31 = .ok (.iinc 1 1, 3) := by decide +kernel
theorem dX10_ofCut_34 : decode cX10_ofCut 34 = .ok (.goto (-32), 3) := by decide +kernel
theorem dX10_ofCut_37 : decode cX10_ofCut 37 = .ok (.aload_n 0, 1) := by decide +kernel
theorem dX10_ofCut_38 : decode cX10_ofCut 38 = .ok (.getfield 54, 3) := by decide +kernel
theorem dX10_ofCut_41 : decode cX10_ofCut 41 = .ok (.aload_n 0, 1) := by decide +kernel
theorem dX10_ofCut_42 : decode cX10_ofCut 42 = .ok (.getfield 72, 3) := by decide +kernel
theorem dX10_ofCut_45 : decode cX10_ofCut 45 = .ok (.aload_n 0, 1) := by decide +kernel
theorem dX10_ofCut_46 : decode cX10_ofCut 46 = .ok (.getfield 84, 3) := by decide +kernel
theorem dX10_ofCut_49 : decode cX10_ofCut 49 = .ok (.invokevirtual 138, 3) := by decide +kernel
theorem dX10_ofCut_52 : decode cX10_ofCut 52 = .ok (.invokevirtual 247, 3) := by decide +kernel
theorem dX10_ofCut_55 : decode cX10_ofCut 55 = .ok (.ireturn, 1) := by decide +kernel
theorem dX10_of_0 : decode cX10_of 0 = .ok (.aload_n 0, 1) := by decide +kernel
theorem dX10_of_1 : decode cX10_of 1 = .ok (.getfield 54, 3) := by decide +kernel
theorem dX10_of_4 : decode cX10_of 4 = .ok (.iload_n 1, 1) := by decide +kernel
theorem dX10_of_5 : decode cX10_of 5 = .ok (.invokevirtual 249, 3) := by decide +kernel
theorem dX10_of_8 : decode cX10_of 8 = .ok (.ifCond .eq 14, 3) := by decide +kernel
theorem dX10_of_11 : decode cX10_of 11 = .ok (.aload_n 0, 1) := by decide +kernel
theorem dX10_of_12 : decode cX10_of 12 = .ok (.getfield 54, 3) := by decide +kernel
theorem dX10_of_15 : decode cX10_of 15 = .ok (.iload_n 1, 1) := by decide +kernel
theorem dX10_of_16 : decode cX10_of 16 = .ok (.invokevirtual 252, 3) := by decide +kernel
theorem dX10_of_19 : decode cX10_of 19 = .ok (.goto 5, 3) := by decide +kernel
theorem dX10_of_22 : decode cX10_of 22 = .ok (.bipush (-2), 2) := by decide +kernel
theorem dX10_of_24 : decode cX10_of 24 = .ok (.ireturn, 1) := by decide +kernel
theorem dX10_along_0 : decode cX10_along 0 = .ok (.aload_n 0, 1) := by decide +kernel
theorem dX10_along_1 : decode cX10_along 1 = .ok (.getfield 54, 3) := by decide +kernel
theorem dX10_along_4 : decode cX10_along 4 = .ok (.iload_n 1, 1) := by decide +kernel
theorem dX10_along_5 : decode cX10_along 5 = .ok (.invokevirtual 249, 3) := by decide +kernel
theorem dX10_along_8 : decode cX10_along 8 = .ok (.ifCond .eq 13, 3) := by decide +kernel
theorem dX10_along_11 : decode cX10_along 11 = .ok (.iload_n 2, 1) := by decide +kernel
theorem dX10_along_12 : decode cX10_along 12 = .ok (.ifCond .lt 9, 3) := by decide +kernel
theorem dX10_along_15 : decode cX10_along 15 = .ok (.iload_n 2, 1) := by decide +kernel
theorem dX10_along_16 : decode cX10_along 16 = .ok (.bipush 12, 2) := by decide +kernel
theorem dX10_along_18 : decode cX10_along 18 = .ok (.if_icmp .le 7, 3) := by decide +kernel
theorem dX10_along_21 : decode cX10_along 21 = .ok (.ldc2_w 255, 3) := by decide +kernel
theorem dX10_along_24 : decode cX10_along 24 = .ok (.lreturn, 1) := by decide +kernel
theorem dX10_along_25 : decode cX10_along 25 = .ok (.aload_n 0, 1) := by decide +kernel
theorem dX10_along_26 : decode cX10_along 26 = .ok (.getfield 54, 3) := by decide +kernel
theorem dX10_along_29 : decode cX10_along 29 = .ok (.iload_n 1, 1) := by decide +kernel
theorem dX10_along_30 : decode cX10_along 30 = .ok (.iload_n 2, 1) := by decide +kernel
theorem dX10_along_31 : decode cX10_along 31 = .ok (.invokevirtual 257, 3) := by decide +kernel
theorem dX10_along_34 : decode cX10_along 34 = .ok (.lreturn, 1) := by decide +kernel
theorem dX10_breaks_0 : decode cX10_breaks 0 = .ok (.aload_n 0, 1) := by decide +kernel
theorem dX10_breaks_1 : decode cX10_breaks 1 = .ok (.getfield 54, 3) := by decide +kernel
theorem dX10_breaks_4 : decode cX10_breaks 4 = .ok (.invokevirtual 261, 3) := by decide +kernel
theorem dX10_breaks_7 : decode cX10_breaks 7 = .ok (.istore_n 2, 1) := by decide +kernel
theorem dX10_breaks_8 : decode cX10_breaks 8 = .ok (.iload_n 2, 1) := by decide +kernel
theorem dX10_breaks_9 : decode cX10_breaks 9 = .ok (.iconst (-1), 1) := by decide +kernel
theorem dX10_breaks_10 : decode cX10_breaks 10 = .ok (.if_icmp .ne 5, 3) := by decide +kernel
theorem dX10_breaks_13 : decode cX10_breaks 13 = .ok (.iconst (-1), 1) := by decide +kernel
theorem dX10_breaks_14 : decode cX10_breaks 14 = .ok (.ireturn, 1) := by decide +kernel
theorem dX10_breaks_15 : decode cX10_breaks 15 = .ok (.iload_n 1, 1) := by decide +kernel
theorem dX10_breaks_16 : decode cX10_breaks 16 = .ok (.tableswitch 56 0 2 #[28, 30, 39], 28) := by decide +kernel
theorem dX10_breaks_44 : decode cX10_breaks 44 = .ok (.iload_n 2, 1) := by decide +kernel
theorem dX10_breaks_45 : decode cX10_breaks 45 = .ok (.ireturn, 1) := by decide +kernel
theorem dX10_breaks_46 : decode cX10_breaks 46 = .ok (.aload_n 0, 1) := by decide +kernel
theorem dX10_breaks_47 : decode cX10_breaks 47 = .ok (.getfield 54, 3) := by decide +kernel
theorem dX10_breaks_50 : decode cX10_breaks 50 = .ok (.iload_n 2, 1) := by decide +kernel
theorem dX10_breaks_51 : decode cX10_breaks 51 = .ok (.invokevirtual 264, 3) := by decide +kernel
theorem dX10_breaks_54 : decode cX10_breaks 54 = .ok (.ireturn, 1) := by decide +kernel
theorem dX10_breaks_55 : decode cX10_breaks 55 = .ok (.aload_n 0, 1) := by decide +kernel
theorem dX10_breaks_56 : decode cX10_breaks 56 = .ok (.getfield 54, 3) := by decide +kernel
theorem dX10_breaks_59 : decode cX10_breaks 59 = .ok (.iload_n 2, 1) := by decide +kernel
theorem dX10_breaks_60 : decode cX10_breaks 60 = .ok (.invokevirtual 267, 3) := by decide +kernel
theorem dX10_breaks_63 : decode cX10_breaks 63 = .ok (.ifCond .eq 7, 3) := by decide +kernel
theorem dX10_breaks_66 : decode cX10_breaks 66 = .ok (.iconst 1, 1) := by decide +kernel
theorem dX10_breaks_67 : decode cX10_breaks 67 = .ok (.goto 4, 3) := by decide +kernel
theorem dX10_breaks_70 : decode cX10_breaks 70 = .ok (.iconst 0, 1) := by decide +kernel
theorem dX10_breaks_71 : decode cX10_breaks 71 = .ok (.ireturn, 1) := by decide +kernel
theorem dX10_breaks_72 : decode cX10_breaks 72 = .ok (.iconst (-1), 1) := by decide +kernel
theorem dX10_breaks_73 : decode cX10_breaks 73 = .ok (.ireturn, 1) := by decide +kernel
theorem dX10_growth_0 : decode cX10_growth 0 = .ok (.aload_n 0, 1) := by decide +kernel
theorem dX10_growth_1 : decode cX10_growth 1 = .ok (.getfield 54, 3) := by decide +kernel
theorem dX10_growth_4 : decode cX10_growth 4 = .ok (.invokevirtual 270, 3) := by decide +kernel
theorem dX10_growth_7 : decode cX10_growth 7 = .ok (.lreturn, 1) := by decide +kernel
theorem dX10_glue_0 : decode cX10_glue 0 = .ok (.aload_n 0, 1) := by decide +kernel
theorem dX10_glue_1 : decode cX10_glue 1 = .ok (.getfield 54, 3) := by decide +kernel
theorem dX10_glue_4 : decode cX10_glue 4 = .ok (.iload_n 1, 1) := by decide +kernel
theorem dX10_glue_5 : decode cX10_glue 5 = .ok (.invokevirtual 249, 3) := by decide +kernel
theorem dX10_glue_8 : decode cX10_glue 8 = .ok (.ifCond .ne 6, 3) := by decide +kernel
theorem dX10_glue_11 : decode cX10_glue 11 = .ok (.bipush (-2), 2) := by decide +kernel
theorem dX10_glue_13 : decode cX10_glue 13 = .ok (.ireturn, 1) := by decide +kernel
theorem dX10_glue_14 : decode cX10_glue 14 = .ok (.aload_n 0, 1) := by decide +kernel
theorem dX10_glue_15 : decode cX10_glue 15 = .ok (.getfield 54, 3) := by decide +kernel
theorem dX10_glue_18 : decode cX10_glue 18 = .ok (.iload_n 1, 1) := by decide +kernel
theorem dX10_glue_19 : decode cX10_glue 19 = .ok (.invokevirtual 274, 3) := by decide +kernel
theorem dX10_glue_22 : decode cX10_glue 22 = .ok (.ifCond .eq 14, 3) := by decide +kernel
theorem dX10_glue_25 : decode cX10_glue 25 = .ok (.aload_n 0, 1) := by decide +kernel
theorem dX10_glue_26 : decode cX10_glue 26 = .ok (.getfield 54, 3) := by decide +kernel
theorem dX10_glue_29 : decode cX10_glue 29 = .ok (.iload_n 1, 1) := by decide +kernel
theorem dX10_glue_30 : decode cX10_glue 30 = .ok (.invokevirtual 277, 3) := by decide +kernel
theorem dX10_glue_33 : decode cX10_glue 33 = .ok (.goto 5, 3) := by decide +kernel
theorem dX10_glue_36 : decode cX10_glue 36 = .ok (.bipush (-3), 2) := by decide +kernel
theorem dX10_glue_38 : decode cX10_glue 38 = .ok (.ireturn, 1) := by decide +kernel
theorem dX10_cutOff_0 : decode cX10_cutOff 0 = .ok (.aload_n 0, 1) := by decide +kernel
theorem dX10_cutOff_1 : decode cX10_cutOff 1 = .ok (.getfield 54, 3) := by decide +kernel
theorem dX10_cutOff_4 : decode cX10_cutOff 4 = .ok (.iload_n 1, 1) := by decide +kernel
theorem dX10_cutOff_5 : decode cX10_cutOff 5 = .ok (.invokevirtual 249, 3) := by decide +kernel
theorem dX10_cutOff_8 : decode cX10_cutOff 8 = .ok (.ifCond .ne 6, 3) := by decide +kernel
theorem dX10_cutOff_11 : decode cX10_cutOff 11 = .ok (.bipush (-2), 2) := by decide +kernel
theorem dX10_cutOff_13 : decode cX10_cutOff 13 = .ok (.ireturn, 1) := by decide +kernel
theorem dX10_cutOff_14 : decode cX10_cutOff 14 = .ok (.aload_n 0, 1) := by decide +kernel
theorem dX10_cutOff_15 : decode cX10_cutOff 15 = .ok (.getfield 54, 3) := by decide +kernel
theorem dX10_cutOff_18 : decode cX10_cutOff 18 = .ok (.iload_n 1, 1) := by decide +kernel
theorem dX10_cutOff_19 : decode cX10_cutOff 19 = .ok (.invokevirtual 280, 3) := by decide +kernel
theorem dX10_cutOff_22 : decode cX10_cutOff 22 = .ok (.ifCond .eq 14, 3) := by decide +kernel
theorem dX10_cutOff_25 : decode cX10_cutOff 25 = .ok (.aload_n 0, 1) := by decide +kernel
theorem dX10_cutOff_26 : decode cX10_cutOff 26 = .ok (.getfield 54, 3) := by decide +kernel
theorem dX10_cutOff_29 : decode cX10_cutOff 29 = .ok (.iload_n 1, 1) := by decide +kernel
theorem dX10_cutOff_30 : decode cX10_cutOff 30 = .ok (.invokevirtual 283, 3) := by decide +kernel
theorem dX10_cutOff_33 : decode cX10_cutOff 33 = .ok (.goto 5, 3) := by decide +kernel
theorem dX10_cutOff_36 : decode cX10_cutOff 36 = .ok (.bipush (-4), 2) := by decide +kernel
theorem dX10_cutOff_38 : decode cX10_cutOff 38 = .ok (.ireturn, 1) := by decide +kernel
theorem dX10_core_0 : decode cX10_core 0 = .ok (.aload_n 0, 1) := by decide +kernel
theorem dX10_core_1 : decode cX10_core 1 = .ok (.getfield 54, 3) := by decide +kernel
theorem dX10_core_4 : decode cX10_core 4 = .ok (.invokevirtual 286, 3) := by decide +kernel
theorem dX10_core_7 : decode cX10_core 7 = .ok (.ireturn, 1) := by decide +kernel
theorem dX10_see_0 : decode cX10_see 0 = .ok (.aload_n 0, 1) := by decide +kernel
theorem dX10_see_1 : decode cX10_see 1 = .ok (.getfield 61, 3) := by decide +kernel
theorem dX10_see_4 : decode cX10_see 4 = .ok (.iload_n 1, 1) := by decide +kernel
theorem dX10_see_5 : decode cX10_see 5 = .ok (.invokevirtual 289, 3) := by decide +kernel
theorem dX10_see_8 : decode cX10_see 8 = .ok (.ifCond .eq 25, 3) := by decide +kernel
theorem dX10_see_11 : decode cX10_see 11 = .ok (.aload_n 0, 1) := by decide +kernel
theorem dX10_see_12 : decode cX10_see 12 = .ok (.iload_n 2, 1) := by decide +kernel
theorem dX10_see_13 : decode cX10_see 13 = .ok (.iload_n 3, 1) := by decide +kernel
theorem dX10_see_14 : decode cX10_see 14 = .ok (.invokevirtual 152, 3) := by decide +kernel
theorem dX10_see_17 : decode cX10_see 17 = .ok (.ifCond .eq 16, 3) := by decide +kernel
theorem dX10_see_20 : decode cX10_see 20 = .ok (.iload_n 2, 1) := by decide +kernel
theorem dX10_see_21 : decode cX10_see 21 = .ok (.iload_n 3, 1) := by decide +kernel
theorem dX10_see_22 : decode cX10_see 22 = .ok (.if_icmp .eq 11, 3) := by decide +kernel
theorem dX10_see_25 : decode cX10_see 25 = .ok (.iload 4, 2) := by decide +kernel
theorem dX10_see_27 : decode cX10_see 27 = .ok (.invokestatic 292, 3) := by decide +kernel
theorem dX10_see_30 : decode cX10_see 30 = .ok (.ifCond .ne 6, 3) := by decide +kernel
theorem dX10_see_33 : decode cX10_see 33 = .ok (.bipush (-2), 2) := by decide +kernel
theorem dX10_see_35 : decode cX10_see 35 = .ok (.ireturn, 1) := by decide +kernel
theorem dX10_see_36 : decode cX10_see 36 = .ok (.aload_n 0, 1) := by decide +kernel
theorem dX10_see_37 : decode cX10_see 37 = .ok (.getfield 61, 3) := by decide +kernel
theorem dX10_see_40 : decode cX10_see 40 = .ok (.iload_n 1, 1) := by decide +kernel
theorem dX10_see_41 : decode cX10_see 41 = .ok (.iload_n 2, 1) := by decide +kernel
theorem dX10_see_42 : decode cX10_see 42 = .ok (.iload_n 3, 1) := by decide +kernel
theorem dX10_see_43 : decode cX10_see 43 = .ok (.iload 4, 2) := by decide +kernel
theorem dX10_see_45 : decode cX10_see 45 = .ok (.invokevirtual 295, 3) := by decide +kernel
theorem dX10_see_48 : decode cX10_see 48 = .ok (.ireturn, 1) := by decide +kernel
theorem dX10_right_0 : decode cX10_right 0 = .ok (.aload_n 0, 1) := by decide +kernel
theorem dX10_right_1 : decode cX10_right 1 = .ok (.getfield 61, 3) := by decide +kernel
theorem dX10_right_4 : decode cX10_right 4 = .ok (.iload_n 1, 1) := by decide +kernel
theorem dX10_right_5 : decode cX10_right 5 = .ok (.invokevirtual 289, 3) := by decide +kernel
theorem dX10_right_8 : decode cX10_right 8 = .ok (.ifCond .eq 22, 3) := by decide +kernel
theorem dX10_right_11 : decode cX10_right 11 = .ok (.aload_n 0, 1) := by decide +kernel
theorem dX10_right_12 : decode cX10_right 12 = .ok (.getfield 61, 3) := by decide +kernel
theorem dX10_right_15 : decode cX10_right 15 = .ok (.iload_n 1, 1) := by decide +kernel
theorem dX10_right_16 : decode cX10_right 16 = .ok (.iload_n 2, 1) := by decide +kernel
theorem dX10_right_17 : decode cX10_right 17 = .ok (.invokevirtual 299, 3) := by decide +kernel
theorem dX10_right_20 : decode cX10_right 20 = .ok (.ifCond .eq 10, 3) := by decide +kernel
theorem dX10_right_23 : decode cX10_right 23 = .ok (.iload_n 3, 1) := by decide +kernel
theorem dX10_right_24 : decode cX10_right 24 = .ok (.invokestatic 292, 3) := by decide +kernel
theorem dX10_right_27 : decode cX10_right 27 = .ok (.ifCond .ne 6, 3) := by decide +kernel
theorem dX10_right_30 : decode cX10_right 30 = .ok (.bipush (-2), 2) := by decide +kernel
theorem dX10_right_32 : decode cX10_right 32 = .ok (.ireturn, 1) := by decide +kernel
theorem dX10_right_33 : decode cX10_right 33 = .ok (.aload_n 0, 1) := by decide +kernel
theorem dX10_right_34 : decode cX10_right 34 = .ok (.getfield 61, 3) := by decide +kernel
theorem dX10_right_37 : decode cX10_right 37 = .ok (.iload_n 1, 1) := by decide +kernel
theorem dX10_right_38 : decode cX10_right 38 = .ok (.iload_n 2, 1) := by decide +kernel
theorem dX10_right_39 : decode cX10_right 39 = .ok (.iload_n 3, 1) := by decide +kernel
theorem dX10_right_40 : decode cX10_right 40 = .ok (.invokevirtual 302, 3) := by decide +kernel
theorem dX10_right_43 : decode cX10_right 43 = .ok (.ireturn, 1) := by decide +kernel
theorem dX10_fit_0 : decode cX10_fit 0 = .ok (.iload_n 1, 1) := by decide +kernel
theorem dX10_fit_1 : decode cX10_fit 1 = .ok (.invokestatic 305, 3) := by decide +kernel
theorem dX10_fit_4 : decode cX10_fit 4 = .ok (.ifCond .eq 12, 3) := by decide +kernel
theorem dX10_fit_7 : decode cX10_fit 7 = .ok (.iload_n 2, 1) := by decide +kernel
theorem dX10_fit_8 : decode cX10_fit 8 = .ok (.ifCond .lt 8, 3) := by decide +kernel
theorem dX10_fit_11 : decode cX10_fit 11 = .ok (.iload_n 2, 1) := by decide +kernel
theorem dX10_fit_12 : decode cX10_fit 12 = .ok (.iconst 1, 1) := by decide +kernel
theorem dX10_fit_13 : decode cX10_fit 13 = .ok (.if_icmp .le 6, 3) := by decide +kernel
theorem dX10_fit_16 : decode cX10_fit 16 = .ok (.bipush (-2), 2) := by decide +kernel
theorem dX10_fit_18 : decode cX10_fit 18 = .ok (.ireturn, 1) := by decide +kernel
theorem dX10_fit_19 : decode cX10_fit 19 = .ok (.aload_n 0, 1) := by decide +kernel
theorem dX10_fit_20 : decode cX10_fit 20 = .ok (.getfield 68, 3) := by decide +kernel
theorem dX10_fit_23 : decode cX10_fit 23 = .ok (.aload_n 0, 1) := by decide +kernel
theorem dX10_fit_24 : decode cX10_fit 24 = .ok (.getfield 84, 3) := by decide +kernel
theorem dX10_fit_27 : decode cX10_fit 27 = .ok (.aload_n 0, 1) := by decide +kernel
theorem dX10_fit_28 : decode cX10_fit 28 = .ok (.getfield 61, 3) := by decide +kernel
theorem dX10_fit_31 : decode cX10_fit 31 = .ok (.iload_n 1, 1) := by decide +kernel
theorem dX10_fit_32 : decode cX10_fit 32 = .ok (.invokevirtual 308, 3) := by decide +kernel
theorem dX10_fit_35 : decode cX10_fit 35 = .ok (.iload_n 2, 1) := by decide +kernel
theorem dX10_fit_36 : decode cX10_fit 36 = .ok (.ifCond .ne 13, 3) := by decide +kernel
theorem dX10_fit_39 : decode cX10_fit 39 = .ok (.aload_n 0, 1) := by decide +kernel
theorem dX10_fit_40 : decode cX10_fit 40 = .ok (.getfield 68, 3) := by decide +kernel
theorem dX10_fit_43 : decode cX10_fit 43 = .ok (.invokevirtual 311, 3) := by decide +kernel
theorem dX10_fit_46 : decode cX10_fit 46 = .ok (.goto 10, 3) := by decide +kernel
theorem dX10_fit_49 : decode cX10_fit 49 = .ok (.aload_n 0, 1) := by decide +kernel
theorem dX10_fit_50 : decode cX10_fit 50 = .ok (.getfield 68, 3) := by decide +kernel
theorem dX10_fit_53 : decode cX10_fit 53 = .ok (.invokevirtual 312, 3) := by decide +kernel
theorem dX10_fit_56 : decode cX10_fit 56 = .ok (.ireturn, 1) := by decide +kernel
theorem dX10_surely_0 : decode cX10_surely 0 = .ok (.iload_n 3, 1) := by decide +kernel
theorem dX10_surely_1 : decode cX10_surely 1 = .ok (.invokestatic 305, 3) := by decide +kernel
theorem dX10_surely_4 : decode cX10_surely 4 = .ok (.ifCond .eq 25, 3) := by decide +kernel
theorem dX10_surely_7 : decode cX10_surely 7 = .ok (.aload_n 0, 1) := by decide +kernel
theorem dX10_surely_8 : decode cX10_surely 8 = .ok (.iload_n 1, 1) := by decide +kernel
theorem dX10_surely_9 : decode cX10_surely 9 = .ok (.iload_n 2, 1) := by decide +kernel
theorem dX10_surely_10 : decode cX10_surely 10 = .ok (.invokevirtual 152, 3) := by decide +kernel
theorem dX10_surely_13 : decode cX10_surely 13 = .ok (.ifCond .eq 16, 3) := by decide +kernel
theorem dX10_surely_16 : decode cX10_surely 16 = .ok (.aload_n 0, 1) := by decide +kernel
theorem dX10_surely_17 : decode cX10_surely 17 = .ok (.getfield 84, 3) := by decide +kernel
theorem dX10_surely_20 : decode cX10_surely 20 = .ok (.iload_n 1, 1) := by decide +kernel
theorem dX10_surely_21 : decode cX10_surely 21 = .ok (.iload_n 2, 1) := by decide +kernel
theorem dX10_surely_22 : decode cX10_surely 22 = .ok (.invokevirtual 173, 3) := by decide +kernel
theorem dX10_surely_25 : decode cX10_surely 25 = .ok (.iconst (-1), 1) := by decide +kernel
theorem dX10_surely_26 : decode cX10_surely 26 = .ok (.if_icmp .ne 6, 3) := by decide +kernel
theorem dX10_surely_29 : decode cX10_surely 29 = .ok (.bipush (-2), 2) := by decide +kernel
theorem dX10_surely_31 : decode cX10_surely 31 = .ok (.ireturn, 1) := by decide +kernel
theorem dX10_surely_32 : decode cX10_surely 32 = .ok (.aload_n 0, 1) := by decide +kernel
theorem dX10_surely_33 : decode cX10_surely 33 = .ok (.getfield 68, 3) := by decide +kernel
theorem dX10_surely_36 : decode cX10_surely 36 = .ok (.aload_n 0, 1) := by decide +kernel
theorem dX10_surely_37 : decode cX10_surely 37 = .ok (.getfield 84, 3) := by decide +kernel
theorem dX10_surely_40 : decode cX10_surely 40 = .ok (.aload_n 0, 1) := by decide +kernel
theorem dX10_surely_41 : decode cX10_surely 41 = .ok (.getfield 61, 3) := by decide +kernel
theorem dX10_surely_44 : decode cX10_surely 44 = .ok (.iload_n 3, 1) := by decide +kernel
theorem dX10_surely_45 : decode cX10_surely 45 = .ok (.invokevirtual 308, 3) := by decide +kernel
theorem dX10_surely_48 : decode cX10_surely 48 = .ok (.aload_n 0, 1) := by decide +kernel
theorem dX10_surely_49 : decode cX10_surely 49 = .ok (.getfield 68, 3) := by decide +kernel
theorem dX10_surely_52 : decode cX10_surely 52 = .ok (.aload_n 0, 1) := by decide +kernel
theorem dX10_surely_53 : decode cX10_surely 53 = .ok (.getfield 84, 3) := by decide +kernel
theorem dX10_surely_56 : decode cX10_surely 56 = .ok (.aload_n 0, 1) := by decide +kernel
theorem dX10_surely_57 : decode cX10_surely 57 = .ok (.getfield 84, 3) := by decide +kernel
theorem dX10_surely_60 : decode cX10_surely 60 = .ok (.iload_n 1, 1) := by decide +kernel
theorem dX10_surely_61 : decode cX10_surely 61 = .ok (.iload_n 2, 1) := by decide +kernel
theorem dX10_surely_62 : decode cX10_surely 62 = .ok (.invokevirtual 173, 3) := by decide +kernel
theorem dX10_surely_65 : decode cX10_surely 65 = .ok (.invokevirtual 315, 3) := by decide +kernel
theorem dX10_surely_68 : decode cX10_surely 68 = .ok (.ireturn, 1) := by decide +kernel
