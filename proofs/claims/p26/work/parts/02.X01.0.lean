theorem dX1_init_0 : decode cX1_init 0 = .ok (.aload_n 0, 1) := by decide +kernel
theorem dX1_init_1 : decode cX1_init 1 = .ok (.invokespecial 3, 3) := by decide +kernel
theorem dX1_init_4 : decode cX1_init 4 = .ok (.aload_n 0, 1) := by decide +kernel
theorem dX1_init_5 : decode cX1_init 5 = .ok (.iconst (-1), 1) := by decide +kernel
theorem dX1_init_6 : decode cX1_init 6 = .ok (.putfield 9, 3) := by decide +kernel
theorem dX1_init_9 : decode cX1_init 9 = .ok (.return_, 1) := by decide +kernel
theorem dX1_faultKind_0 : decode cX1_faultKind 0 = .ok (.aload_n 0, 1) := by decide +kernel
theorem dX1_faultKind_1 : decode cX1_faultKind 1 = .ok (.getfield 15, 3) := by decide +kernel
theorem dX1_faultKind_4 : decode cX1_faultKind 4 = .ok (.ireturn, 1) := by decide +kernel
theorem dX1_faultPlace_0 : decode cX1_faultPlace 0 = .ok (.aload_n 0, 1) := by decide +kernel
theorem dX1_faultPlace_1 : decode cX1_faultPlace 1 = .ok (.getfield 9, 3) := by decide +kernel
theorem dX1_faultPlace_4 : decode cX1_faultPlace 4 = .ok (.ireturn, 1) := by decide +kernel
theorem dX1_polygon_0 : decode cX1_polygon 0 = .ok (.aload_n 0, 1) := by decide +kernel
theorem dX1_polygon_1 : decode cX1_polygon 1 = .ok (.getfield 18, 3) := by decide +kernel
theorem dX1_polygon_4 : decode cX1_polygon 4 = .ok (.areturn, 1) := by decide +kernel
theorem dX1_bits_0 : decode cX1_bits 0 = .ok (.aload_n 0, 1) := by decide +kernel
theorem dX1_bits_1 : decode cX1_bits 1 = .ok (.getfield 22, 3) := by decide +kernel
theorem dX1_bits_4 : decode cX1_bits 4 = .ok (.ireturn, 1) := by decide +kernel
theorem dX1_understand_0 : decode cX1_understand 0 = .ok (.aload_n 0, 1) := by decide +kernel
theorem dX1_understand_1 : decode cX1_understand 1 = .ok (.iconst 0, 1) := by decide +kernel
theorem dX1_understand_2 : decode cX1_understand 2 = .ok (.putfield 15, 3) := by decide +kernel
theorem dX1_understand_5 : decode cX1_understand 5 = .ok (.aload_n 0, 1) := by decide +kernel
theorem dX1_understand_6 : decode cX1_understand 6 = .ok (.iconst (-1), 1) := by decide +kernel
theorem dX1_understand_7 : decode cX1_understand 7 = .ok (.putfield 9, 3) := by decide +kernel
theorem dX1_understand_10 : decode cX1_understand 10 = .ok (.aload_n 0, 1) := by decide +kernel
theorem dX1_understand_11 : decode cX1_understand 11 = .ok (.iconst 0, 1) := by decide +kernel
theorem dX1_understand_12 : decode cX1_understand 12 = .ok (.putfield 25, 3) := by decide +kernel
theorem dX1_understand_15 : decode cX1_understand 15 = .ok (.aload_n 0, 1) := by decide +kernel
theorem dX1_understand_16 : decode cX1_understand 16 = .ok (.aconst_null, 1) := by decide +kernel
theorem dX1_understand_17 : decode cX1_understand 17 = .ok (.putfield 18, 3) := by decide +kernel
theorem dX1_understand_20 : decode cX1_understand 20 = .ok (.aload_n 0, 1) := by decide +kernel
theorem dX1_understand_21 : decode cX1_understand 21 = .ok (.iconst 0, 1) := by decide +kernel
theorem dX1_understand_22 : decode cX1_understand 22 = .ok (.putfield 22, 3) := by decide +kernel
theorem dX1_understand_25 : decode cX1_understand 25 = .ok (.aload_n 1, 1) := by decide +kernel
theorem dX1_understand_26 : decode cX1_understand 26 = .ok (.invokevirtual 28, 3) := by decide +kernel
theorem dX1_understand_29 : decode cX1_understand 29 = .ok (.iconst 0, 1) := by decide +kernel
theorem dX1_understand_30 : decode cX1_understand 30 = .ok (.istore_n 3, 1) := by decide +kernel
theorem dX1_understand_31 : decode cX1_understand 31 = .ok (.iload_n 3, 1) := by decide +kernel
theorem dX1_understand_32 : decode cX1_understand 32 = .ok (.sipush 300, 3) := by decide +kernel
theorem dX1_understand_35 : decode cX1_understand 35 = .ok (.if_icmp .gt 50, 3) := by decide +kernel
theorem dX1_understand_38 : decode cX1_understand 38 = .ok (.aload_n 1, 1) := by decide +kernel
theorem dX1_understand_39 : decode cX1_understand 39 = .ok (.invokevirtual 33, 3) := by decide +kernel
theorem dX1_understand_42 : decode cX1_understand 42 = .ok (.aload_n 0, 1) := by decide +kernel
theorem dX1_understand_43 : decode cX1_understand 43 = .ok (.aload_n 0, 1) := by decide +kernel
theorem dX1_understand_44 : decode cX1_understand 44 = .ok (.aload_n 1, 1) := by decide +kernel
theorem dX1_understand_45 : decode cX1_understand 45 = .ok (.aload_n 2, 1) := by decide +kernel
theorem dX1_understand_46 : decode cX1_understand 46 = .ok (.invokevirtual 36, 3) := by decide +kernel
theorem dX1_understand_49 : decode cX1_understand 49 = .ok (.putfield 15, 3) := by decide +kernel
theorem dX1_understand_52 : decode cX1_understand 52 = .ok (.aload_n 0, 1) := by decide +kernel
theorem dX1_understand_53 : decode cX1_understand 53 = .ok (.getfield 15, 3) := by decide +kernel
theorem dX1_understand_56 : decode cX1_understand 56 = .ok (.ifCond .eq 13, 3) := by decide +kernel
theorem dX1_understand_59 : decode cX1_understand 59 = .ok (.aload_n 0, 1) := by decide +kernel
theorem dX1_understand_60 : decode cX1_understand 60 = .ok (.aload_n 1, 1) := by decide +kernel
theorem dX1_understand_61 : decode cX1_understand 61 = .ok (.invokevirtual 40, 3) := by decide +kernel
theorem dX1_understand_64 : decode cX1_understand 64 = .ok (.putfield 9, 3) := by decide +kernel
theorem dX1_understand_67 : decode cX1_understand 67 = .ok (.iconst 0, 1) := by decide +kernel
theorem dX1_understand_68 : decode cX1_understand 68 = .ok (.ireturn, 1) := by decide +kernel
theorem dX1_understand_69 : decode cX1_understand 69 = .ok (.aload_n 1, 1) := by decide +kernel
theorem dX1_understand_70 : decode cX1_understand 70 = .ok (.invokevirtual 44, 3) := by decide +kernel
theorem dX1_understand_73 : decode cX1_understand 73 = .ok (.ifCond .ne 6, 3) := by decide +kernel
theorem dX1_understand_76 : decode cX1_understand 76 = .ok (.goto 9, 3) := by decide +kernel
theorem dX1_understand_79 : decode cX1_understand 79 = .ok (.iinc 3 1, 3) := by decide +kernel
theorem dX1_understand_82 : decode cX1_understand 82 = .ok (.goto (-51), 3) := by decide +kernel
theorem dX1_understand_85 : decode cX1_understand 85 = .ok (.aload_n 0, 1) := by decide +kernel
theorem dX1_understand_86 : decode cX1_understand 86 = .ok (.getfield 18, 3) := by decide +kernel
theorem dX1_understand_89 : decode cX1_understand 89 = .ok (.ifnull 7, 3) := by decide +kernel
theorem dX1_understand_92 : decode cX1_understand 92 = .ok (.iconst 1, 1) := by decide +kernel
theorem dX1_understand_93 : decode cX1_understand 93 = .ok (.goto 4, 3) := by decide +kernel
theorem dX1_understand_96 : decode cX1_understand 96 = .ok (.iconst 0, 1) := by decide +kernel
theorem dX1_understand_97 : decode cX1_understand 97 = .ok (.ireturn, 1) := by decide +kernel
theorem dX1_takeToken_0 : decode cX1_takeToken 0 = .ok (.aload_n 0, 1) := by decide +kernel
theorem dX1_takeToken_1 : decode cX1_takeToken 1 = .ok (.getfield 25, 3) := by decide +kernel
theorem dX1_takeToken_4 : decode cX1_takeToken 4 = .ok (.tableswitch 129 0 3 #[32, 52, 92, 103], 32) := by decide +kernel
theorem dX1_takeToken_36 : decode cX1_takeToken 36 = .ok (.aload_n 0, 1) := by decide +kernel
theorem dX1_takeToken_37 : decode cX1_takeToken 37 = .ok (.iconst 1, 1) := by decide +kernel
theorem dX1_takeToken_38 : decode cX1_takeToken 38 = .ok (.putfield 25, 3) := by decide +kernel
theorem dX1_takeToken_41 : decode cX1_takeToken 41 = .ok (.aload_n 1, 1) := by decide +kernel
theorem dX1_takeToken_42 : decode cX1_takeToken 42 = .ok (.ldc 47, 2) := by decide +kernel
theorem dX1_takeToken_44 : decode cX1_takeToken 44 = .ok (.invokevirtual 49, 3) := by decide +kernel
theorem dX1_takeToken_47 : decode cX1_takeToken 47 = .ok (.ifCond .eq 7, 3) := by decide +kernel
theorem dX1_takeToken_50 : decode cX1_takeToken 50 = .ok (.iconst 0, 1) := by decide +kernel
theorem dX1_takeToken_51 : decode cX1_takeToken 51 = .ok (.goto 4, 3) := by decide +kernel
theorem dX1_takeToken_54 : decode cX1_takeToken 54 = .ok (.iconst 1, 1) := by decide +kernel
theorem dX1_takeToken_55 : decode cX1_takeToken 55 = .ok (.ireturn, 1) := by decide +kernel
theorem dX1_takeToken_56 : decode cX1_takeToken 56 = .ok (.aload_n 0, 1) := by decide +kernel
theorem dX1_takeToken_57 : decode cX1_takeToken 57 = .ok (.iconst 4, 1) := by decide +kernel
theorem dX1_takeToken_58 : decode cX1_takeToken 58 = .ok (.putfield 25, 3) := by decide +kernel
theorem dX1_takeToken_61 : decode cX1_takeToken 61 = .ok (.aload_n 1, 1) := by decide +kernel
theorem dX1_takeToken_62 : decode cX1_takeToken 62 = .ok (.invokevirtual 44, 3) := by decide +kernel
theorem dX1_takeToken_65 : decode cX1_takeToken 65 = .ok (.iconst 2, 1) := by decide +kernel
theorem dX1_takeToken_66 : decode cX1_takeToken 66 = .ok (.if_icmp .eq 5, 3) := by decide +kernel
theorem dX1_takeToken_69 : decode cX1_takeToken 69 = .ok (.iconst 1, 1) := by decide +kernel
theorem dX1_takeToken_70 : decode cX1_takeToken 70 = .ok (.ireturn, 1) := by decide +kernel
theorem dX1_takeToken_71 : decode cX1_takeToken 71 = .ok (.aload_n 0, 1) := by decide +kernel
theorem dX1_takeToken_72 : decode cX1_takeToken 72 = .ok (.aload_n 2, 1) := by decide +kernel
theorem dX1_takeToken_73 : decode cX1_takeToken 73 = .ok (.aload_n 1, 1) := by decide +kernel
theorem dX1_takeToken_74 : decode cX1_takeToken 74 = .ok (.invokevirtual 53, 3) := by decide +kernel
theorem dX1_takeToken_77 : decode cX1_takeToken 77 = .ok (.invokevirtual 56, 3) := by decide +kernel
theorem dX1_takeToken_80 : decode cX1_takeToken 80 = .ok (.putfield 18, 3) := by decide +kernel
theorem dX1_takeToken_83 : decode cX1_takeToken 83 = .ok (.aload_n 0, 1) := by decide +kernel
theorem dX1_takeToken_84 : decode cX1_takeToken 84 = .ok (.getfield 18, 3) := by decide +kernel
theorem dX1_takeToken_87 : decode cX1_takeToken 87 = .ok (.ifnonnull 7, 3) := by decide +kernel
theorem dX1_takeToken_90 : decode cX1_takeToken 90 = .ok (.iconst 2, 1) := by decide +kernel
theorem dX1_takeToken_91 : decode cX1_takeToken 91 = .ok (.goto 4, 3) := by decide +kernel
theorem dX1_takeToken_94 : decode cX1_takeToken 94 = .ok (.iconst 0, 1) := by decide +kernel
theorem dX1_takeToken_95 : decode cX1_takeToken 95 = .ok (.ireturn, 1) := by decide +kernel
theorem dX1_takeToken_96 : decode cX1_takeToken 96 = .ok (.aload_n 0, 1) := by decide +kernel
theorem dX1_takeToken_97 : decode cX1_takeToken 97 = .ok (.iconst 3, 1) := by decide +kernel
theorem dX1_takeToken_98 : decode cX1_takeToken 98 = .ok (.putfield 25, 3) := by decide +kernel
theorem dX1_takeToken_101 : decode cX1_takeToken 101 = .ok (.aload_n 0, 1) := by decide +kernel
theorem dX1_takeToken_102 : decode cX1_takeToken 102 = .ok (.aload_n 1, 1) := by decide +kernel
theorem dX1_takeToken_103 : decode cX1_takeToken 103 = .ok (.invokevirtual 62, 3) := by decide +kernel
theorem dX1_takeToken_106 : decode cX1_takeToken 106 = .ok (.ireturn, 1) := by decide +kernel
theorem dX1_takeToken_107 : decode cX1_takeToken 107 = .ok (.aload_n 0, 1) := by decide +kernel
theorem dX1_takeToken_108 : decode cX1_takeToken 108 = .ok (.iconst 4, 1) := by decide +kernel
theorem dX1_takeToken_109 : decode cX1_takeToken 109 = .ok (.putfield 25, 3) := by decide +kernel
theorem dX1_takeToken_112 : decode cX1_takeToken 112 = .ok (.aload_n 1, 1) := by decide +kernel
theorem dX1_takeToken_113 : decode cX1_takeToken 113 = .ok (.invokevirtual 44, 3) := by decide +kernel
theorem dX1_takeToken_116 : decode cX1_takeToken 116 = .ok (.iconst 2, 1) := by decide +kernel
theorem dX1_takeToken_117 : decode cX1_takeToken 117 = .ok (.if_icmp .ne 14, 3) := by decide +kernel
theorem dX1_takeToken_120 : decode cX1_takeToken 120 = .ok (.aload_n 0, 1) := by decide +kernel
theorem dX1_takeToken_121 : decode cX1_takeToken 121 = .ok (.aload_n 1, 1) := by decide +kernel
theorem dX1_takeToken_122 : decode cX1_takeToken 122 = .ok (.invokevirtual 53, 3) := by decide +kernel
theorem dX1_takeToken_125 : decode cX1_takeToken 125 = .ok (.invokevirtual 66, 3) := by decide +kernel
theorem dX1_takeToken_128 : decode cX1_takeToken 128 = .ok (.goto 4, 3) := by decide +kernel
theorem dX1_takeToken_131 : decode cX1_takeToken 131 = .ok (.iconst 1, 1) := by decide +kernel
theorem dX1_takeToken_132 : decode cX1_takeToken 132 = .ok (.ireturn, 1) := by decide +kernel
theorem dX1_takeToken_133 : decode cX1_takeToken 133 = .ok (.aload_n 0, 1) := by decide +kernel
theorem dX1_takeToken_134 : decode cX1_takeToken 134 = .ok (.iconst 2, 1) := by decide +kernel
theorem dX1_takeToken_135 : decode cX1_takeToken 135 = .ok (.putfield 25, 3) := by decide +kernel
theorem dX1_takeToken_138 : decode cX1_takeToken 138 = .ok (.aload_n 1, 1) := by decide +kernel
theorem dX1_takeToken_139 : decode cX1_takeToken 139 = .ok (.invokevirtual 44, 3) := by decide +kernel
theorem dX1_takeToken_142 : decode cX1_takeToken 142 = .ok (.iconst 3, 1) := by decide +kernel
theorem dX1_takeToken_143 : decode cX1_takeToken 143 = .ok (.if_icmp .ne 7, 3) := by decide +kernel
theorem dX1_takeToken_146 : decode cX1_takeToken 146 = .ok (.iconst 0, 1) := by decide +kernel
theorem dX1_takeToken_147 : decode cX1_takeToken 147 = .ok (.goto 4, 3) := by decide +kernel
theorem dX1_takeToken_150 : decode cX1_takeToken 150 = .ok (.iconst 1, 1) := by decide +kernel
theorem dX1_takeToken_151 : decode cX1_takeToken 151 = .ok (.ireturn, 1) := by decide +kernel
theorem dX1_takeFirst_0 : decode cX1_takeFirst 0 = .ok (.aload_n 0, 1) := by decide +kernel
theorem dX1_takeFirst_1 : decode cX1_takeFirst 1 = .ok (.getfield 18, 3) := by decide +kernel
theorem dX1_takeFirst_4 : decode cX1_takeFirst 4 = .ok (.ifnonnull 5, 3) := by decide +kernel
theorem dX1_takeFirst_7 : decode cX1_takeFirst 7 = .ok (.iconst 1, 1) := by decide +kernel
theorem dX1_takeFirst_8 : decode cX1_takeFirst 8 = .ok (.ireturn, 1) := by decide +kernel
theorem dX1_takeFirst_9 : decode cX1_takeFirst 9 = .ok (.aload_n 1, 1) := by decide +kernel
theorem dX1_takeFirst_10 : decode cX1_takeFirst 10 = .ok (.invokevirtual 44, 3) := by decide +kernel
theorem dX1_takeFirst_13 : decode cX1_takeFirst 13 = .ok (.ifCond .ne 29, 3) := by decide +kernel
theorem dX1_takeFirst_16 : decode cX1_takeFirst 16 = .ok (.aload_n 0, 1) := by decide +kernel
theorem dX1_takeFirst_17 : decode cX1_takeFirst 17 = .ok (.getfield 22, 3) := by decide +kernel
theorem dX1_takeFirst_20 : decode cX1_takeFirst 20 = .ok (.invokestatic 70, 3) := by decide +kernel
theorem dX1_takeFirst_23 : decode cX1_takeFirst 23 = .ok (.aload_n 0, 1) := by decide +kernel
theorem dX1_takeFirst_24 : decode cX1_takeFirst 24 = .ok (.getfield 18, 3) := by decide +kernel
theorem dX1_takeFirst_27 : decode cX1_takeFirst 27 = .ok (.invokevirtual 75, 3) := by decide +kernel
theorem dX1_takeFirst_30 : decode cX1_takeFirst 30 = .ok (.iconst 3, 1) := by decide +kernel
theorem dX1_takeFirst_31 : decode cX1_takeFirst 31 = .ok (.isub, 1) := by decide +kernel
theorem dX1_takeFirst_32 : decode cX1_takeFirst 32 = .ok (.if_icmp .ge 8, 3) := by decide +kernel
theorem dX1_takeFirst_35 : decode cX1_takeFirst 35 = .ok (.bipush 6, 2) := by decide +kernel
theorem dX1_takeFirst_37 : decode cX1_takeFirst 37 = .ok (.goto 4, 3) := by decide +kernel
theorem dX1_takeFirst_40 : decode cX1_takeFirst 40 = .ok (.iconst 0, 1) := by decide +kernel
theorem dX1_takeFirst_41 : decode cX1_takeFirst 41 = .ok (.ireturn, 1) := by decide +kernel
theorem dX1_takeFirst_42 : decode cX1_takeFirst 42 = .ok (.aload_n 0, 1) := by decide +kernel
theorem dX1_takeFirst_43 : decode cX1_takeFirst 43 = .ok (.aload_n 1, 1) := by decide +kernel
theorem dX1_takeFirst_44 : decode cX1_takeFirst 44 = .ok (.invokevirtual 53, 3) := by decide +kernel
theorem dX1_takeFirst_47 : decode cX1_takeFirst 47 = .ok (.putfield 79, 3) := by decide +kernel
theorem dX1_takeFirst_50 : decode cX1_takeFirst 50 = .ok (.aload_n 1, 1) := by decide +kernel
theorem dX1_takeFirst_51 : decode cX1_takeFirst 51 = .ok (.invokevirtual 44, 3) := by decide +kernel
theorem dX1_takeFirst_54 : decode cX1_takeFirst 54 = .ok (.iconst 2, 1) := by decide +kernel
theorem dX1_takeFirst_55 : decode cX1_takeFirst 55 = .ok (.if_icmp .eq 5, 3) := by decide +kernel
theorem dX1_takeFirst_58 : decode cX1_takeFirst 58 = .ok (.iconst 1, 1) := by decide +kernel
theorem dX1_takeFirst_59 : decode cX1_takeFirst 59 = .ok (.ireturn, 1) := by decide +kernel
theorem dX1_takeFirst_60 : decode cX1_takeFirst 60 = .ok (.aload_n 0, 1) := by decide +kernel
theorem dX1_takeFirst_61 : decode cX1_takeFirst 61 = .ok (.getfield 18, 3) := by decide +kernel
theorem dX1_takeFirst_64 : decode cX1_takeFirst 64 = .ok (.aload_n 0, 1) := by decide +kernel
theorem dX1_takeFirst_65 : decode cX1_takeFirst 65 = .ok (.getfield 79, 3) := by decide +kernel
theorem dX1_takeFirst_68 : decode cX1_takeFirst 68 = .ok (.invokevirtual 82, 3) := by decide +kernel
theorem dX1_takeFirst_71 : decode cX1_takeFirst 71 = .ok (.ifCond .eq 7, 3) := by decide +kernel
theorem dX1_takeFirst_74 : decode cX1_takeFirst 74 = .ok (.iconst 0, 1) := by decide +kernel
theorem dX1_takeFirst_75 : decode cX1_takeFirst 75 = .ok (.goto 4, 3) := by decide +kernel
theorem dX1_takeFirst_78 : decode cX1_takeFirst 78 = .ok (.iconst 2, 1) := by decide +kernel
theorem dX1_takeFirst_79 : decode cX1_takeFirst 79 = .ok (.ireturn, 1) := by decide +kernel
theorem dX1_takeSecond_0 : decode cX1_takeSecond 0 = .ok (.aload_n 0, 1) := by decide +kernel
theorem dX1_takeSecond_1 : decode cX1_takeSecond 1 = .ok (.getfield 18, 3) := by decide +kernel
theorem dX1_takeSecond_4 : decode cX1_takeSecond 4 = .ok (.ifnull 14, 3) := by decide +kernel
theorem dX1_takeSecond_7 : decode cX1_takeSecond 7 = .ok (.aload_n 0, 1) := by decide +kernel
theorem dX1_takeSecond_8 : decode cX1_takeSecond 8 = .ok (.getfield 18, 3) := by decide +kernel
theorem dX1_takeSecond_11 : decode cX1_takeSecond 11 = .ok (.iload_n 1, 1) := by decide +kernel
theorem dX1_takeSecond_12 : decode cX1_takeSecond 12 = .ok (.invokevirtual 82, 3) := by decide +kernel
theorem dX1_takeSecond_15 : decode cX1_takeSecond 15 = .ok (.ifCond .ne 5, 3) := by decide +kernel
theorem dX1_takeSecond_18 : decode cX1_takeSecond 18 = .ok (.iconst 2, 1) := by decide +kernel
theorem dX1_takeSecond_19 : decode cX1_takeSecond 19 = .ok (.ireturn, 1) := by decide +kernel
theorem dX1_takeSecond_20 : decode cX1_takeSecond 20 = .ok (.aload_n 0, 1) := by decide +kernel
theorem dX1_takeSecond_21 : decode cX1_takeSecond 21 = .ok (.getfield 18, 3) := by decide +kernel
theorem dX1_takeSecond_24 : decode cX1_takeSecond 24 = .ok (.aload_n 0, 1) := by decide +kernel
theorem dX1_takeSecond_25 : decode cX1_takeSecond 25 = .ok (.getfield 79, 3) := by decide +kernel
theorem dX1_takeSecond_28 : decode cX1_takeSecond 28 = .ok (.iload_n 1, 1) := by decide +kernel
theorem dX1_takeSecond_29 : decode cX1_takeSecond 29 = .ok (.invokevirtual 86, 3) := by decide +kernel
theorem dX1_takeSecond_32 : decode cX1_takeSecond 32 = .ok (.istore_n 2, 1) := by decide +kernel
theorem dX1_takeSecond_33 : decode cX1_takeSecond 33 = .ok (.iload_n 2, 1) := by decide +kernel
theorem dX1_takeSecond_34 : decode cX1_takeSecond 34 = .ok (.iconst (-1), 1) := by decide +kernel
theorem dX1_takeSecond_35 : decode cX1_takeSecond 35 = .ok (.if_icmp .ne 5, 3) := by decide +kernel
theorem dX1_takeSecond_38 : decode cX1_takeSecond 38 = .ok (.iconst 4, 1) := by decide +kernel
theorem dX1_takeSecond_39 : decode cX1_takeSecond 39 = .ok (.ireturn, 1) := by decide +kernel
theorem dX1_takeSecond_40 : decode cX1_takeSecond 40 = .ok (.aload_n 0, 1) := by decide +kernel
theorem dX1_takeSecond_41 : decode cX1_takeSecond 41 = .ok (.getfield 18, 3) := by decide +kernel
theorem dX1_takeSecond_44 : decode cX1_takeSecond 44 = .ok (.aload_n 0, 1) := by decide +kernel
theorem dX1_takeSecond_45 : decode cX1_takeSecond 45 = .ok (.getfield 22, 3) := by decide +kernel
theorem dX1_takeSecond_48 : decode cX1_takeSecond 48 = .ok (.iload_n 2, 1) := by decide +kernel
theorem dX1_takeSecond_49 : decode cX1_takeSecond 49 = .ok (.invokevirtual 90, 3) := by decide +kernel
theorem dX1_takeSecond_52 : decode cX1_takeSecond 52 = .ok (.ifCond .eq 5, 3) := by decide +kernel
theorem dX1_takeSecond_55 : decode cX1_takeSecond 55 = .ok (.iconst 3, 1) := by decide +kernel
theorem dX1_takeSecond_56 : decode cX1_takeSecond 56 = .ok (.ireturn, 1) := by decide +kernel
theorem dX1_takeSecond_57 : decode cX1_takeSecond 57 = .ok (.aload_n 0, 1) := by decide +kernel
theorem dX1_takeSecond_58 : decode cX1_takeSecond 58 = .ok (.getfield 18, 3) := by decide +kernel
theorem dX1_takeSecond_61 : decode cX1_takeSecond 61 = .ok (.iload_n 2, 1) := by decide +kernel
theorem dX1_takeSecond_62 : decode cX1_takeSecond 62 = .ok (.invokevirtual 94, 3) := by decide +kernel
theorem dX1_takeSecond_65 : decode cX1_takeSecond 65 = .ok (.aload_n 0, 1) := by decide +kernel
theorem dX1_takeSecond_66 : decode cX1_takeSecond 66 = .ok (.getfield 22, 3) := by decide +kernel
theorem dX1_takeSecond_69 : decode cX1_takeSecond 69 = .ok (.iand, 1) := by decide +kernel
theorem dX1_takeSecond_70 : decode cX1_takeSecond 70 = .ok (.ifCond .eq 5, 3) := by decide +kernel
theorem dX1_takeSecond_73 : decode cX1_takeSecond 73 = .ok (.iconst 5, 1) := by decide +kernel
theorem dX1_takeSecond_74 : decode cX1_takeSecond 74 = .ok (.ireturn, 1) := by decide +kernel
theorem dX1_takeSecond_75 : decode cX1_takeSecond 75 = .ok (.aload_n 0, 1) := by decide +kernel
theorem dX1_takeSecond_76 : decode cX1_takeSecond 76 = .ok (.dup, 1) := by decide +kernel
theorem dX1_takeSecond_77 : decode cX1_takeSecond 77 = .ok (.getfield 22, 3) := by decide +kernel
theorem dX1_takeSecond_80 : decode cX1_takeSecond 80 = .ok (.iconst 1, 1) := by decide +kernel
theorem dX1_takeSecond_81 : decode cX1_takeSecond 81 = .ok (.iload_n 2, 1) := by decide +kernel
theorem dX1_takeSecond_82 : decode cX1_takeSecond 82 = .ok (.ishl, 1) := by decide +kernel
theorem dX1_takeSecond_83 : decode cX1_takeSecond 83 = .ok (.ior, 1) := by decide +kernel
theorem dX1_takeSecond_84 : decode cX1_takeSecond 84 = .ok (.putfield 22, 3) := by decide +kernel
theorem dX1_takeSecond_87 : decode cX1_takeSecond 87 = .ok (.iconst 0, 1) := by decide +kernel
theorem dX1_takeSecond_88 : decode cX1_takeSecond 88 = .ok (.ireturn, 1) := by decide +kernel
