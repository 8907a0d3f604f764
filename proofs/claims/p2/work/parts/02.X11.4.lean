theorem dX11_right_83 : decode cX11_right 83 = .ok (.aload_n 0, 1) := by decide +kernel
theorem dX11_right_84 : decode cX11_right 84 = .ok (.getfield 195, 3) := by decide +kernel
theorem dX11_right_87 : decode cX11_right 87 = .ok (.iload_n 3, 1) := by decide +kernel
theorem dX11_right_88 : decode cX11_right 88 = .ok (.iastore, 1) := by decide +kernel
theorem dX11_right_89 : decode cX11_right 89 = .ok (.aload_n 0, 1) := by decide +kernel
theorem dX11_right_90 : decode cX11_right 90 = .ok (.dup, 1) := by decide +kernel
theorem dX11_right_91 : decode cX11_right 91 = .ok (.getfield 195, 3) := by decide +kernel
theorem dX11_right_94 : decode cX11_right 94 = .ok (.iconst 1, 1) := by decide +kernel
theorem dX11_right_95 : decode cX11_right 95 = .ok (.iadd, 1) := by decide +kernel
theorem dX11_right_96 : decode cX11_right 96 = .ok (.putfield 195, 3) := by decide +kernel
theorem dX11_right_99 : decode cX11_right 99 = .ok (.iconst 0, 1) := by decide +kernel
theorem dX11_right_100 : decode cX11_right 100 = .ok (.istore 4, 2) := by decide +kernel
theorem dX11_right_102 : decode cX11_right 102 = .ok (.iconst 0, 1) := by decide +kernel
theorem dX11_right_103 : decode cX11_right 103 = .ok (.istore 5, 2) := by decide +kernel
theorem dX11_right_105 : decode cX11_right 105 = .ok (.iload 5, 2) := by decide +kernel
theorem dX11_right_107 : decode cX11_right 107 = .ok (.aload_n 0, 1) := by decide +kernel
theorem dX11_right_108 : decode cX11_right 108 = .ok (.getfield 195, 3) := by decide +kernel
theorem dX11_right_111 : decode cX11_right 111 = .ok (.if_icmp .ge 30, 3) := by decide +kernel
theorem dX11_right_114 : decode cX11_right 114 = .ok (.iload 4, 2) := by decide +kernel
theorem dX11_right_116 : decode cX11_right 116 = .ok (.aload_n 0, 1) := by decide +kernel
theorem dX11_right_117 : decode cX11_right 117 = .ok (.getfield 85, 3) := by decide +kernel
theorem dX11_right_120 : decode cX11_right 120 = .ok (.iload 5, 2) := by decide +kernel
theorem dX11_right_122 : decode cX11_right 122 = .ok (.iaload, 1) := by decide +kernel
theorem dX11_right_123 : decode cX11_right 123 = .ok (.iload_n 2, 1) := by decide +kernel
theorem dX11_right_124 : decode cX11_right 124 = .ok (.if_icmp .ne 7, 3) := by decide +kernel
theorem dX11_right_127 : decode cX11_right 127 = .ok (.iconst 1, 1) := by decide +kernel
theorem dX11_right_128 : decode cX11_right 128 = .ok (.goto 4, 3) := by decide +kernel
theorem dX11_right_131 : decode cX11_right 131 = .ok (.iconst 0, 1) := by decide +kernel
theorem dX11_right_132 : decode cX11_right 132 = .ok (.iadd, 1) := by decide +kernel
theorem dX11_right_133 : decode cX11_right 133 = .ok (.istore 4, 2) := by decide +kernel
theorem dX11_right_135 : decode cX11_right 135 = .ok (.iinc 5 1, 3) := by decide +kernel
theorem dX11_right_138 : decode cX11_right 138 = .ok (.goto (-33), 3) := by decide +kernel
theorem dX11_right_141 : decode cX11_right 141 = .ok (.iload 4, 2) := by decide +kernel
theorem dX11_right_143 : decode cX11_right 143 = .ok (.ireturn, 1) := by decide +kernel
set_option maxRecDepth 20000 in
theorem ggX11_isFit_X11_entryOf : GoodIn wsX11_isFit wsX11_entryOf := goodIn_r _ [15, 16, 17, 18, 19, 14, 20, 21, 22, 23, 24, 25, 26, 27, 28, 29, 30, 31, 32, 33, 34, 35, 36, 37, 38, 39, 40, 41, 42, 43, 44, 45, 46, 47, 48, 49, 50, 51, 52, 53, 54, 55, 56, 57, 58, 59, 60, 61, 62, 63, 64, 65, 66, 67, 68, 69, 70, 71, 72, 73, 74, 75, 76, 77, 78, 79, 80, 81, 82, 83, 84, 85, 86, 87, 88, 89, 90, 91, 92, 93, 94, 95, 96, 97, 98, 99, 100] (by decide +kernel) (by decide +kernel)
set_option maxRecDepth 20000 in
theorem gX11_isFit_X11_entryOf : GoodIn wsX11_isFit (wsV RX11 247 RX11 yX11_entryOf wsX11_entryOf) := goodIn_app (goodIn_of _ (by decide +kernel)) ggX11_isFit_X11_entryOf
theorem dX11_isFit_0 : decode cX11_isFit 0 = .ok (.iconst 0, 1) := by decide +kernel
theorem dX11_isFit_1 : decode cX11_isFit 1 = .ok (.istore 4, 2) := by decide +kernel
theorem dX11_isFit_3 : decode cX11_isFit 3 = .ok (.iload 4, 2) := by decide +kernel
theorem dX11_isFit_5 : decode cX11_isFit 5 = .ok (.aload_n 0, 1) := by decide +kernel
theorem dX11_isFit_6 : decode cX11_isFit 6 = .ok (.getfield 192, 3) := by decide +kernel
theorem dX11_isFit_9 : decode cX11_isFit 9 = .ok (.if_icmp .ge 112, 3) := by decide +kernel
theorem dX11_isFit_12 : decode cX11_isFit 12 = .ok (.aload_n 0, 1) := by decide +kernel
theorem dX11_isFit_13 : decode cX11_isFit 13 = .ok (.getfield 70, 3) := by decide +kernel
theorem dX11_isFit_16 : decode cX11_isFit 16 = .ok (.iload 4, 2) := by decide +kernel
theorem dX11_isFit_18 : decode cX11_isFit 18 = .ok (.iaload, 1) := by decide +kernel
theorem dX11_isFit_19 : decode cX11_isFit 19 = .ok (.iload_n 3, 1) := by decide +kernel
theorem dX11_isFit_20 : decode cX11_isFit 20 = .ok (.if_icmp .le 6, 3) := by decide +kernel
theorem dX11_isFit_23 : decode cX11_isFit 23 = .ok (.goto 92, 3) := by decide +kernel
theorem dX11_isFit_26 : decode cX11_isFit 26 = .ok (.aload_n 0, 1) := by decide +kernel
theorem dX11_isFit_27 : decode cX11_isFit 27 = .ok (.getfield 79, 3) := by decide +kernel
theorem dX11_isFit_30 : decode cX11_isFit 30 = .ok (.iload 4, 2) := by decide +kernel
theorem dX11_isFit_32 : decode cX11_isFit 32 = .ok (.iaload, 1) := by decide +kernel
theorem dX11_isFit_33 : decode cX11_isFit 33 = .ok (.istore 5, 2) := by decide +kernel
theorem dX11_isFit_35 : decode cX11_isFit 35 = .ok (.iconst 0, 1) := by decide +kernel
theorem dX11_isFit_36 : decode cX11_isFit 36 = .ok (.istore 6, 2) := by decide +kernel
theorem dX11_isFit_38 : decode cX11_isFit 38 = .ok (.iload 6, 2) := by decide +kernel
theorem dX11_isFit_40 : decode cX11_isFit 40 = .ok (.aload_n 0, 1) := by decide +kernel
theorem dX11_isFit_41 : decode cX11_isFit 41 = .ok (.getfield 195, 3) := by decide +kernel
theorem dX11_isFit_44 : decode cX11_isFit 44 = .ok (.if_icmp .ge 41, 3) := by decide +kernel
theorem dX11_isFit_47 : decode cX11_isFit 47 = .ok (.aload_n 0, 1) := by decide +kernel
theorem dX11_isFit_48 : decode cX11_isFit 48 = .ok (.getfield 85, 3) := by decide +kernel
theorem dX11_isFit_51 : decode cX11_isFit 51 = .ok (.iload 6, 2) := by decide +kernel
theorem dX11_isFit_53 : decode cX11_isFit 53 = .ok (.iaload, 1) := by decide +kernel
theorem dX11_isFit_54 : decode cX11_isFit 54 = .ok (.iload 4, 2) := by decide +kernel
theorem dX11_isFit_56 : decode cX11_isFit 56 = .ok (.if_icmp .ne 23, 3) := by decide +kernel
theorem dX11_isFit_59 : decode cX11_isFit 59 = .ok (.aload_n 0, 1) := by decide +kernel
theorem dX11_isFit_60 : decode cX11_isFit 60 = .ok (.getfield 82, 3) := by decide +kernel
theorem dX11_isFit_63 : decode cX11_isFit 63 = .ok (.iload 6, 2) := by decide +kernel
theorem dX11_isFit_65 : decode cX11_isFit 65 = .ok (.iaload, 1) := by decide +kernel
theorem dX11_isFit_66 : decode cX11_isFit 66 = .ok (.iload_n 3, 1) := by decide +kernel
theorem dX11_isFit_67 : decode cX11_isFit 67 = .ok (.if_icmp .gt 12, 3) := by decide +kernel
theorem dX11_isFit_70 : decode cX11_isFit 70 = .ok (.aload_n 0, 1) := by decide +kernel
theorem dX11_isFit_71 : decode cX11_isFit 71 = .ok (.getfield 88, 3) := by decide +kernel
theorem dX11_isFit_74 : decode cX11_isFit 74 = .ok (.iload 6, 2) := by decide +kernel
theorem dX11_isFit_76 : decode cX11_isFit 76 = .ok (.iaload, 1) := by decide +kernel
theorem dX11_isFit_77 : decode cX11_isFit 77 = .ok (.istore 5, 2) := by decide +kernel
theorem dX11_isFit_79 : decode cX11_isFit 79 = .ok (.iinc 6 1, 3) := by decide +kernel
theorem dX11_isFit_82 : decode cX11_isFit 82 = .ok (.goto (-44), 3) := by decide +kernel
theorem dX11_isFit_85 : decode cX11_isFit 85 = .ok (.aload_n 0, 1) := by decide +kernel
theorem dX11_isFit_86 : decode cX11_isFit 86 = .ok (.aload_n 0, 1) := by decide +kernel
theorem dX11_isFit_87 : decode cX11_isFit 87 = .ok (.getfield 98, 3) := by decide +kernel
theorem dX11_isFit_90 : decode cX11_isFit 90 = .ok (.lload_n 1, 1) := by decide +kernel
theorem dX11_isFit_91 : decode cX11_isFit 91 = .ok (.aload_n 0, 1) := by decide +kernel
theorem dX11_isFit_92 : decode cX11_isFit 92 = .ok (.getfield 73, 3) := by decide +kernel
theorem dX11_isFit_95 : decode cX11_isFit 95 = .ok (.iload 4, 2) := by decide +kernel
theorem dX11_isFit_97 : decode cX11_isFit 97 = .ok (.iaload, 1) := by decide +kernel
theorem dX11_isFit_98 : decode cX11_isFit 98 = .ok (.aload_n 0, 1) := by decide +kernel
theorem dX11_isFit_99 : decode cX11_isFit 99 = .ok (.getfield 76, 3) := by decide +kernel
theorem dX11_isFit_102 : decode cX11_isFit 102 = .ok (.iload 4, 2) := by decide +kernel
theorem dX11_isFit_104 : decode cX11_isFit 104 = .ok (.iaload, 1) := by decide +kernel
theorem dX11_isFit_105 : decode cX11_isFit 105 = .ok (.invokevirtual 247, 3) := by decide +kernel
theorem dX11_isFit_108 : decode cX11_isFit 108 = .ok (.iload 5, 2) := by decide +kernel
theorem dX11_isFit_110 : decode cX11_isFit 110 = .ok (.if_icmp .eq 5, 3) := by decide +kernel
theorem dX11_isFit_113 : decode cX11_isFit 113 = .ok (.iconst 0, 1) := by decide +kernel
theorem dX11_isFit_114 : decode cX11_isFit 114 = .ok (.ireturn, 1) := by decide +kernel
theorem dX11_isFit_115 : decode cX11_isFit 115 = .ok (.iinc 4 1, 3) := by decide +kernel
theorem dX11_isFit_118 : decode cX11_isFit 118 = .ok (.goto (-115), 3) := by decide +kernel
theorem dX11_isFit_121 : decode cX11_isFit 121 = .ok (.iconst 1, 1) := by decide +kernel
theorem dX11_isFit_122 : decode cX11_isFit 122 = .ok (.ireturn, 1) := by decide +kernel
set_option maxRecDepth 20000 in
theorem ggX11_makeFits_X11_listFor : GoodIn wsX11_makeFits wsX11_listFor := goodIn_r _ [9, 10, 2, 4, 11, 12, 13, 8, 14, 15, 16, 17, 18, 19, 20, 21, 22, 23, 24, 25, 26, 27, 28, 29, 30, 31, 32, 33, 34, 35, 69, 70, 71, 72, 73, 74, 75, 76, 77, 78, 79, 80, 81, 82, 83, 84, 85, 86, 87, 88, 89, 90, 91, 92, 93, 94, 95, 96, 97, 98, 99, 100, 101, 102, 103, 104, 105, 106, 107, 108, 109, 110, 111, 112, 113, 114, 115, 116, 117, 118, 119, 120, 121, 122] (by decide +kernel) (by decide +kernel)
set_option maxRecDepth 20000 in
theorem gX11_makeFits_X11_listFor : GoodIn wsX11_makeFits (wsV RX11 101 RX11 yX11_listFor wsX11_listFor) := goodIn_app (goodIn_of _ (by decide +kernel)) ggX11_makeFits_X11_listFor
set_option maxRecDepth 20000 in
theorem ggX11_makeFits_X11_isFit : GoodIn wsX11_makeFits wsX11_isFit := goodIn_r _ [39, 40, 41, 42, 43, 44, 45, 46, 1, 47, 48, 49, 50, 51, 8, 52, 53, 54, 55, 56, 57, 58, 59, 60, 61, 62, 63, 64, 11, 12, 13, 14, 15, 16, 17, 18, 19, 20, 21, 22, 23, 24, 25, 65, 66, 67, 68, 69, 70, 71, 72, 73, 74, 75, 76, 77, 78, 79, 80, 81, 82, 83, 84, 85, 86, 87, 88, 89, 90, 91, 92, 93, 94, 95, 96, 97, 98, 99, 100, 101, 102, 103, 104, 105, 106, 107, 108, 109, 110, 111, 112, 113, 114, 115, 116, 117, 118, 119, 120, 121, 122] (by decide +kernel) (by decide +kernel)
set_option maxRecDepth 20000 in
theorem gX11_makeFits_X11_isFit : GoodIn wsX11_makeFits (wsV RX11 326 RX11 yX11_isFit wsX11_isFit) := goodIn_app (goodIn_of _ (by decide +kernel)) ggX11_makeFits_X11_isFit
theorem dX11_makeFits_0 : decode cX11_makeFits 0 = .ok (.aload_n 0, 1) := by decide +kernel
theorem dX11_makeFits_1 : decode cX11_makeFits 1 = .ok (.aload_n 0, 1) := by decide +kernel
theorem dX11_makeFits_2 : decode cX11_makeFits 2 = .ok (.getfield 98, 3) := by decide +kernel
theorem dX11_makeFits_5 : decode cX11_makeFits 5 = .ok (.invokevirtual 101, 3) := by decide +kernel
theorem dX11_makeFits_8 : decode cX11_makeFits 8 = .ok (.iconst 0, 1) := by decide +kernel
theorem dX11_makeFits_9 : decode cX11_makeFits 9 = .ok (.istore_n 2, 1) := by decide +kernel
theorem dX11_makeFits_10 : decode cX11_makeFits 10 = .ok (.iconst 0, 1) := by decide +kernel
theorem dX11_makeFits_11 : decode cX11_makeFits 11 = .ok (.istore_n 3, 1) := by decide +kernel
theorem dX11_makeFits_12 : decode cX11_makeFits 12 = .ok (.iload_n 3, 1) := by decide +kernel
theorem dX11_makeFits_13 : decode cX11_makeFits 13 = .ok (.aload_n 0, 1) := by decide +kernel
theorem dX11_makeFits_14 : decode cX11_makeFits 14 = .ok (.getfield 177, 3) := by decide +kernel
theorem dX11_makeFits_17 : decode cX11_makeFits 17 = .ok (.if_icmp .ge 43, 3) := by decide +kernel
theorem dX11_makeFits_20 : decode cX11_makeFits 20 = .ok (.aload_n 0, 1) := by decide +kernel
theorem dX11_makeFits_21 : decode cX11_makeFits 21 = .ok (.getfield 91, 3) := by decide +kernel
theorem dX11_makeFits_24 : decode cX11_makeFits 24 = .ok (.iload_n 3, 1) := by decide +kernel
theorem dX11_makeFits_25 : decode cX11_makeFits 25 = .ok (.aload_n 0, 1) := by decide +kernel
theorem dX11_makeFits_26 : decode cX11_makeFits 26 = .ok (.aload_n 0, 1) := by decide +kernel
theorem dX11_makeFits_27 : decode cX11_makeFits 27 = .ok (.getfield 27, 3) := by decide +kernel
theorem dX11_makeFits_30 : decode cX11_makeFits 30 = .ok (.iload_n 3, 1) := by decide +kernel
theorem dX11_makeFits_31 : decode cX11_makeFits 31 = .ok (.laload, 1) := by decide +kernel
theorem dX11_makeFits_32 : decode cX11_makeFits 32 = .ok (.iload_n 1, 1) := by decide +kernel
theorem dX11_makeFits_33 : decode cX11_makeFits 33 = .ok (.invokevirtual 326, 3) := by decide +kernel
theorem dX11_makeFits_36 : decode cX11_makeFits 36 = .ok (.bastore, 1) := by decide +kernel
theorem dX11_makeFits_37 : decode cX11_makeFits 37 = .ok (.iload_n 2, 1) := by decide +kernel
theorem dX11_makeFits_38 : decode cX11_makeFits 38 = .ok (.aload_n 0, 1) := by decide +kernel
theorem dX11_makeFits_39 : decode cX11_makeFits 39 = .ok (.getfield 91, 3) := by decide +kernel
theorem dX11_makeFits_42 : decode cX11_makeFits 42 = .ok (.iload_n 3, 1) := by decide +kernel
theorem dX11_makeFits_43 : decode cX11_makeFits 43 = .ok (.baload, 1) := by decide +kernel
theorem dX11_makeFits_44 : decode cX11_makeFits 44 = .ok (.ifCond .eq 7, 3) := by decide +kernel
theorem dX11_makeFits_47 : decode cX11_makeFits 47 = .ok (.iconst 1, 1) := by decide +kernel
theorem dX11_makeFits_48 : decode cX11_makeFits 48 = .ok (.goto 4, 3) := by decide +kernel
theorem dX11_makeFits_51 : decode cX11_makeFits 51 = .ok (.iconst 0, 1) := by decide +kernel
theorem dX11_makeFits_52 : decode cX11_makeFits 52 = .ok (.iadd, 1) := by decide +kernel
theorem dX11_makeFits_53 : decode cX11_makeFits 53 = .ok (.istore_n 2, 1) := by decide +kernel
theorem dX11_makeFits_54 : decode cX11_makeFits 54 = .ok (.iinc 3 1, 3) := by decide +kernel
theorem dX11_makeFits_57 : decode cX11_makeFits 57 = .ok (.goto (-45), 3) := by decide +kernel
theorem dX11_makeFits_60 : decode cX11_makeFits 60 = .ok (.iload_n 2, 1) := by decide +kernel
theorem dX11_makeFits_61 : decode cX11_makeFits 61 = .ok (.ireturn, 1) := by decide +kernel
set_option maxRecDepth 20000 in
theorem ggX11_fit_X11_in : GoodIn wsX11_fit wsX11_in := goodIn_r _ [6] (by decide +kernel) (by decide +kernel)
set_option maxRecDepth 20000 in
theorem gX11_fit_X11_in : GoodIn wsX11_fit (va_wsS RX11 207 yX11_in wsX11_in) := goodIn_app (goodIn_of _ (by decide +kernel)) ggX11_fit_X11_in
set_option maxRecDepth 20000 in
theorem ggX11_fit_X11_makeFits : GoodIn wsX11_fit wsX11_makeFits := goodIn_r _ [10, 11, 1, 2, 12, 13, 14, 15, 5, 16, 17, 18, 19, 20, 21, 22, 23, 24, 25, 26, 27, 28, 29, 30, 31, 32, 33, 34, 35, 36, 37, 38, 39, 40, 41, 42, 43, 44, 45, 46, 47, 48, 49, 50, 51, 52, 53, 54, 55, 56, 57, 58, 59, 60, 61, 62, 63, 64, 65, 66, 67, 68, 69, 70, 71, 72, 73, 74, 75, 76, 77, 78, 79, 80, 81, 82, 83, 84, 85, 86, 87, 88, 89, 90, 91, 92, 93, 94, 95, 96, 97, 98, 99, 100, 101, 102, 103, 104, 105, 106, 107, 108, 109, 110, 111, 112, 113, 114, 115, 116, 117, 118, 119, 120, 121, 122, 123, 124, 125, 126, 127, 128, 129] (by decide +kernel) (by decide +kernel)
set_option maxRecDepth 20000 in
theorem gX11_fit_X11_makeFits : GoodIn wsX11_fit (wsV RX11 330 RX11 yX11_makeFits wsX11_makeFits) := goodIn_app (goodIn_of _ (by decide +kernel)) ggX11_fit_X11_makeFits
theorem dX11_fit_0 : decode cX11_fit 0 = .ok (.iload_n 1, 1) := by decide +kernel
theorem dX11_fit_1 : decode cX11_fit 1 = .ok (.iconst 0, 1) := by decide +kernel
theorem dX11_fit_2 : decode cX11_fit 2 = .ok (.sipush 999, 3) := by decide +kernel
theorem dX11_fit_5 : decode cX11_fit 5 = .ok (.invokestatic 207, 3) := by decide +kernel
theorem dX11_fit_8 : decode cX11_fit 8 = .ok (.ifCond .eq 12, 3) := by decide +kernel
theorem dX11_fit_11 : decode cX11_fit 11 = .ok (.iload_n 2, 1) := by decide +kernel
theorem dX11_fit_12 : decode cX11_fit 12 = .ok (.iconst 0, 1) := by decide +kernel
theorem dX11_fit_13 : decode cX11_fit 13 = .ok (.iconst 1, 1) := by decide +kernel
theorem dX11_fit_14 : decode cX11_fit 14 = .ok (.invokestatic 207, 3) := by decide +kernel
theorem dX11_fit_17 : decode cX11_fit 17 = .ok (.ifCond .ne 6, 3) := by decide +kernel
theorem dX11_fit_20 : decode cX11_fit 20 = .ok (.bipush (-2), 2) := by decide +kernel
theorem dX11_fit_22 : decode cX11_fit 22 = .ok (.ireturn, 1) := by decide +kernel
theorem dX11_fit_23 : decode cX11_fit 23 = .ok (.aload_n 0, 1) := by decide +kernel
theorem dX11_fit_24 : decode cX11_fit 24 = .ok (.iload_n 1, 1) := by decide +kernel
theorem dX11_fit_25 : decode cX11_fit 25 = .ok (.invokevirtual 330, 3) := by decide +kernel
theorem dX11_fit_28 : decode cX11_fit 28 = .ok (.istore_n 3, 1) := by decide +kernel
theorem dX11_fit_29 : decode cX11_fit 29 = .ok (.iload_n 2, 1) := by decide +kernel
theorem dX11_fit_30 : decode cX11_fit 30 = .ok (.ifCond .ne 5, 3) := by decide +kernel
theorem dX11_fit_33 : decode cX11_fit 33 = .ok (.iload_n 3, 1) := by decide +kernel
theorem dX11_fit_34 : decode cX11_fit 34 = .ok (.ireturn, 1) := by decide +kernel
theorem dX11_fit_35 : decode cX11_fit 35 = .ok (.iconst 0, 1) := by decide +kernel
theorem dX11_fit_36 : decode cX11_fit 36 = .ok (.istore 4, 2) := by decide +kernel
theorem dX11_fit_38 : decode cX11_fit 38 = .ok (.iload 4, 2) := by decide +kernel
theorem dX11_fit_40 : decode cX11_fit 40 = .ok (.aload_n 0, 1) := by decide +kernel
theorem dX11_fit_41 : decode cX11_fit 41 = .ok (.getfield 177, 3) := by decide +kernel
theorem dX11_fit_44 : decode cX11_fit 44 = .ok (.if_icmp .ge 22, 3) := by decide +kernel
theorem dX11_fit_47 : decode cX11_fit 47 = .ok (.aload_n 0, 1) := by decide +kernel
theorem dX11_fit_48 : decode cX11_fit 48 = .ok (.getfield 91, 3) := by decide +kernel
theorem dX11_fit_51 : decode cX11_fit 51 = .ok (.iload 4, 2) := by decide +kernel
theorem dX11_fit_53 : decode cX11_fit 53 = .ok (.baload, 1) := by decide +kernel
theorem dX11_fit_54 : decode cX11_fit 54 = .ok (.ifCond .eq 6, 3) := by decide +kernel
theorem dX11_fit_57 : decode cX11_fit 57 = .ok (.iload 4, 2) := by decide +kernel
theorem dX11_fit_59 : decode cX11_fit 59 = .ok (.ireturn, 1) := by decide +kernel
theorem dX11_fit_60 : decode cX11_fit 60 = .ok (.iinc 4 1, 3) := by decide +kernel
theorem dX11_fit_63 : decode cX11_fit 63 = .ok (.goto (-25), 3) := by decide +kernel
theorem dX11_fit_66 : decode cX11_fit 66 = .ok (.iconst (-1), 1) := by decide +kernel
theorem dX11_fit_67 : decode cX11_fit 67 = .ok (.ireturn, 1) := by decide +kernel
set_option maxRecDepth 20000 in
theorem ggX11_surely_X11_isCorner : GoodIn wsX11_surely wsX11_isCorner := goodIn_r _ [9, 1, 10, 11, 8, 12, 80, 81, 82, 83, 84, 85, 86, 87, 88, 89, 90, 91, 92, 93, 94, 95, 96, 97, 98, 99, 100, 101, 102, 103, 104, 105, 106, 107, 108, 109, 110, 111, 112, 113, 114, 115, 116, 117, 118, 119, 120, 121, 122, 123, 124, 125, 126, 127, 128, 129, 130, 131, 132, 133] (by decide +kernel) (by decide +kernel)
set_option maxRecDepth 20000 in
theorem gX11_surely_X11_isCorner : GoodIn wsX11_surely (wsV RX11 244 RX11 yX11_isCorner wsX11_isCorner) := goodIn_app (goodIn_of _ (by decide +kernel)) ggX11_surely_X11_isCorner
set_option maxRecDepth 20000 in
theorem ggX11_surely_X11_isLine : GoodIn wsX11_surely wsX11_isLine := goodIn_r _ [15, 16, 17, 8, 18] (by decide +kernel) (by decide +kernel)
set_option maxRecDepth 20000 in
theorem gX11_surely_X11_isLine : GoodIn wsX11_surely (va_wsS RX11 164 yX11_isLine wsX11_isLine) := goodIn_app (goodIn_of _ (by decide +kernel)) ggX11_surely_X11_isLine
set_option maxRecDepth 20000 in
theorem ggX11_surely_X11_in : GoodIn wsX11_surely wsX11_in := goodIn_r _ [12] (by decide +kernel) (by decide +kernel)
set_option maxRecDepth 20000 in
theorem gX11_surely_X11_in : GoodIn wsX11_surely (va_wsS RX11 207 yX11_in wsX11_in) := goodIn_app (goodIn_of _ (by decide +kernel)) ggX11_surely_X11_in
set_option maxRecDepth 20000 in
theorem ggX11_surely_X11_makeFits : GoodIn wsX11_surely wsX11_makeFits := goodIn_r _ [22, 1, 2, 3, 4, 23, 24, 25, 8, 26, 27, 28, 29, 30, 31, 32, 33, 34, 35, 36, 13, 14, 15, 16, 17, 18, 37, 38, 39, 40, 41, 42, 43, 44, 45, 46, 47, 48, 49, 50, 51, 52, 53, 54, 55, 56, 57, 58, 59, 60, 61, 62, 63, 64, 65, 66, 67, 68, 69, 70, 71, 72, 73, 74, 75, 76, 77, 78, 79, 80, 81, 82, 83, 84, 85, 86, 87, 88, 89, 90, 91, 92, 93, 94, 95, 96, 97, 98, 99, 100, 101, 102, 103, 104, 105, 106, 107, 108, 109, 110, 111, 112, 113, 114, 115, 116, 117, 118, 119, 120, 121, 122, 123, 124, 125, 126, 127, 128, 129, 130, 131, 132, 133] (by decide +kernel) (by decide +kernel)
set_option maxRecDepth 20000 in
theorem gX11_surely_X11_makeFits : GoodIn wsX11_surely (wsV RX11 330 RX11 yX11_makeFits wsX11_makeFits) := goodIn_app (goodIn_of _ (by decide +kernel)) ggX11_surely_X11_makeFits
set_option maxRecDepth 20000 in
theorem ggX11_surely_X11_near : GoodIn wsX11_surely wsX11_near := goodIn_r _ [79, 34, 16, 17, 8, 18, 80, 81, 82, 83, 84, 85, 86, 87, 88, 89, 90, 91, 92, 93, 94, 95, 96, 97, 98, 99, 100, 101, 102, 103, 104, 105, 106, 107, 108, 109, 110, 111, 112, 113, 114, 115, 116, 117, 118, 119, 120, 121, 122, 123, 124, 125, 126, 127, 128, 129, 130, 131, 132, 133] (by decide +kernel) (by decide +kernel)
set_option maxRecDepth 20000 in
theorem gX11_surely_X11_near : GoodIn wsX11_surely (wsV RX11 233 RX11 yX11_near wsX11_near) := goodIn_app (goodIn_of _ (by decide +kernel)) ggX11_surely_X11_near
theorem dX11_surely_0 : decode cX11_surely 0 = .ok (.aload_n 0, 1) := by decide +kernel
theorem dX11_surely_1 : decode cX11_surely 1 = .ok (.iload_n 1, 1) := by decide +kernel
theorem dX11_surely_2 : decode cX11_surely 2 = .ok (.invokevirtual 244, 3) := by decide +kernel
theorem dX11_surely_5 : decode cX11_surely 5 = .ok (.ifCond .eq 34, 3) := by decide +kernel
theorem dX11_surely_8 : decode cX11_surely 8 = .ok (.aload_n 0, 1) := by decide +kernel
theorem dX11_surely_9 : decode cX11_surely 9 = .ok (.iload_n 2, 1) := by decide +kernel
theorem dX11_surely_10 : decode cX11_surely 10 = .ok (.invokevirtual 244, 3) := by decide +kernel
theorem dX11_surely_13 : decode cX11_surely 13 = .ok (.ifCond .eq 26, 3) := by decide +kernel
theorem dX11_surely_16 : decode cX11_surely 16 = .ok (.aload_n 0, 1) := by decide +kernel
theorem dX11_surely_17 : decode cX11_surely 17 = .ok (.getfield 98, 3) := by decide +kernel
theorem dX11_surely_20 : decode cX11_surely 20 = .ok (.iload_n 1, 1) := by decide +kernel
theorem dX11_surely_21 : decode cX11_surely 21 = .ok (.iload_n 2, 1) := by decide +kernel
theorem dX11_surely_22 : decode cX11_surely 22 = .ok (.invokestatic 164, 3) := by decide +kernel
theorem dX11_surely_25 : decode cX11_surely 25 = .ok (.ifCond .eq 14, 3) := by decide +kernel
theorem dX11_surely_28 : decode cX11_surely 28 = .ok (.iload_n 3, 1) := by decide +kernel
theorem dX11_surely_29 : decode cX11_surely 29 = .ok (.iconst 0, 1) := by decide +kernel
theorem dX11_surely_30 : decode cX11_surely 30 = .ok (.sipush 999, 3) := by decide +kernel
theorem dX11_surely_33 : decode cX11_surely 33 = .ok (.invokestatic 207, 3) := by decide +kernel
theorem dX11_surely_36 : decode cX11_surely 36 = .ok (.ifCond .ne 6, 3) := by decide +kernel
theorem dX11_surely_39 : decode cX11_surely 39 = .ok (.bipush (-2), 2) := by decide +kernel
theorem dX11_surely_41 : decode cX11_surely 41 = .ok (.ireturn, 1) := by decide +kernel
theorem dX11_surely_42 : decode cX11_surely 42 = .ok (.aload_n 0, 1) := by decide +kernel
theorem dX11_surely_43 : decode cX11_surely 43 = .ok (.iload_n 3, 1) := by decide +kernel
theorem dX11_surely_44 : decode cX11_surely 44 = .ok (.invokevirtual 330, 3) := by decide +kernel
theorem dX11_surely_47 : decode cX11_surely 47 = .ok (.istore 4, 2) := by decide +kernel
theorem dX11_surely_49 : decode cX11_surely 49 = .ok (.iconst 0, 1) := by decide +kernel
theorem dX11_surely_50 : decode cX11_surely 50 = .ok (.istore 5, 2) := by decide +kernel
theorem dX11_surely_52 : decode cX11_surely 52 = .ok (.iconst 0, 1) := by decide +kernel
theorem dX11_surely_53 : decode cX11_surely 53 = .ok (.istore 6, 2) := by decide +kernel
theorem dX11_surely_55 : decode cX11_surely 55 = .ok (.iload 6, 2) := by decide +kernel
theorem dX11_surely_57 : decode cX11_surely 57 = .ok (.aload_n 0, 1) := by decide +kernel
theorem dX11_surely_58 : decode cX11_surely 58 = .ok (.getfield 177, 3) := by decide +kernel
theorem dX11_surely_61 : decode cX11_surely 61 = .ok (.if_icmp .ge 49, 3) := by decide +kernel
theorem dX11_surely_64 : decode cX11_surely 64 = .ok (.iload 5, 2) := by decide +kernel
theorem dX11_surely_66 : decode cX11_surely 66 = .ok (.aload_n 0, 1) := by decide +kernel
theorem dX11_surely_67 : decode cX11_surely 67 = .ok (.getfield 91, 3) := by decide +kernel
theorem dX11_surely_70 : decode cX11_surely 70 = .ok (.iload 6, 2) := by decide +kernel
theorem dX11_surely_72 : decode cX11_surely 72 = .ok (.baload, 1) := by decide +kernel
theorem dX11_surely_73 : decode cX11_surely 73 = .ok (.ifCond .eq 27, 3) := by decide +kernel
theorem dX11_surely_76 : decode cX11_surely 76 = .ok (.aload_n 0, 1) := by decide +kernel
theorem dX11_surely_77 : decode cX11_surely 77 = .ok (.aload_n 0, 1) := by decide +kernel
theorem dX11_surely_78 : decode cX11_surely 78 = .ok (.getfield 98, 3) := by decide +kernel
theorem dX11_surely_81 : decode cX11_surely 81 = .ok (.aload_n 0, 1) := by decide +kernel
theorem dX11_surely_82 : decode cX11_surely 82 = .ok (.getfield 27, 3) := by decide +kernel
theorem dX11_surely_85 : decode cX11_surely 85 = .ok (.iload 6, 2) := by decide +kernel
theorem dX11_surely_87 : decode cX11_surely 87 = .ok (.laload, 1) := by decide +kernel
theorem dX11_surely_88 : decode cX11_surely 88 = .ok (.iload_n 1, 1) := by decide +kernel
theorem dX11_surely_89 : decode cX11_surely 89 = .ok (.iload_n 2, 1) := by decide +kernel
theorem dX11_surely_90 : decode cX11_surely 90 = .ok (.invokevirtual 233, 3) := by decide +kernel
theorem dX11_surely_93 : decode cX11_surely 93 = .ok (.ifCond .eq 7, 3) := by decide +kernel
theorem dX11_surely_96 : decode cX11_surely 96 = .ok (.iconst 1, 1) := by decide +kernel
theorem dX11_surely_97 : decode cX11_surely 97 = .ok (.goto 4, 3) := by decide +kernel
theorem dX11_surely_100 : decode cX11_surely 100 = .ok (.iconst 0, 1) := by decide +kernel
theorem dX11_surely_101 : decode cX11_surely 101 = .ok (.iadd, 1) := by decide +kernel
theorem dX11_surely_102 : decode cX11_surely 102 = .ok (.istore 5, 2) := by decide +kernel
theorem dX11_surely_104 : decode cX11_surely 104 = .ok (.iinc 6 1, 3) := by decide +kernel
theorem dX11_surely_107 : decode cX11_surely 107 = .ok (.goto (-52), 3) := by decide +kernel
theorem dX11_surely_110 : decode cX11_surely 110 = .ok (.iload 4, 2) := by decide +kernel
theorem dX11_surely_112 : decode cX11_surely 112 = .ok (.ifCond .ne 7, 3) := by decide +kernel
theorem dX11_surely_115 : decode cX11_surely 115 = .ok (.iconst (-1), 1) := by decide +kernel
theorem dX11_surely_116 : decode cX11_surely 116 = .ok (.goto 24, 3) := by decide +kernel
theorem dX11_surely_119 : decode cX11_surely 119 = .ok (.iload 5, 2) := by decide +kernel
theorem dX11_surely_121 : decode cX11_surely 121 = .ok (.iload 4, 2) := by decide +kernel
theorem dX11_surely_123 : decode cX11_surely 123 = .ok (.if_icmp .ne 7, 3) := by decide +kernel
theorem dX11_surely_126 : decode cX11_surely 126 = .ok (.iconst 1, 1) := by decide +kernel
theorem dX11_surely_127 : decode cX11_surely 127 = .ok (.goto 13, 3) := by decide +kernel
theorem dX11_surely_130 : decode cX11_surely 130 = .ok (.iload 5, 2) := by decide +kernel
theorem dX11_surely_132 : decode cX11_surely 132 = .ok (.ifCond .ne 7, 3) := by decide +kernel
theorem dX11_surely_135 : decode cX11_surely 135 = .ok (.iconst 0, 1) := by decide +kernel
theorem dX11_surely_136 : decode cX11_surely 136 = .ok (.goto 4, 3) := by decide +kernel
theorem dX11_surely_139 : decode cX11_surely 139 = .ok (.iconst 2, 1) := by decide +kernel
theorem dX11_surely_140 : decode cX11_surely 140 = .ok (.ireturn, 1) := by decide +kernel
set_option maxRecDepth 20000 in
theorem ggX11_ask_X11_in : GoodIn wsX11_ask wsX11_in := goodIn_r _ [10] (by decide +kernel) (by decide +kernel)
set_option maxRecDepth 20000 in
theorem gX11_ask_X11_in : GoodIn wsX11_ask (va_wsS RX11 207 yX11_in wsX11_in) := goodIn_app (goodIn_of _ (by decide +kernel)) ggX11_ask_X11_in
set_option maxRecDepth 20000 in
theorem ggX11_ask_X11_makeFits : GoodIn wsX11_ask wsX11_makeFits := goodIn_r _ [14, 4, 2, 3, 5, 15, 16, 17, 9, 18, 19, 20, 21, 22, 23, 24, 25, 26, 27, 28, 29, 30, 31, 32, 33, 34, 35, 36, 37, 38, 39, 40, 41, 42, 43, 44, 45, 46, 47, 48, 49, 50, 51, 52, 53, 54, 55, 56, 57, 58, 59, 60, 61, 6, 62, 63, 64, 65, 66, 67, 68, 69, 70, 71, 72, 73, 74, 75, 76, 77, 78, 79, 80, 81, 82, 83, 84, 85, 86, 87, 88, 89, 90, 91, 92, 93, 94, 95, 96, 97, 98, 99, 100, 101, 102, 103, 104, 105, 106, 107, 108, 109, 110, 111, 112, 113, 114, 115, 116, 117, 118, 119, 120, 121, 122, 123, 124, 125, 126, 127, 128, 129, 130] (by decide +kernel) (by decide +kernel)
set_option maxRecDepth 20000 in
theorem gX11_ask_X11_makeFits : GoodIn wsX11_ask (wsV RX11 330 RX11 yX11_makeFits wsX11_makeFits) := goodIn_app (goodIn_of _ (by decide +kernel)) ggX11_ask_X11_makeFits
set_option maxRecDepth 20000 in
theorem ggX11_ask_X11_entriesFrom : GoodIn wsX11_ask wsX11_entriesFrom := goodIn_r _ [65, 6, 66, 67, 68, 69, 70, 71, 9, 72, 20, 21, 22, 23, 24, 25, 26, 27, 28, 29, 30, 31, 32, 33, 34, 73, 74, 75, 76, 77, 78, 79, 80, 81, 82, 83, 84, 85, 86, 87, 88, 89, 90, 91, 92, 93, 94, 95, 96, 97, 98, 99, 100, 101, 102, 103, 104, 105, 106, 107, 108, 109, 110, 111, 112, 113, 114, 115, 116, 117, 118, 119, 120, 121, 122, 123, 124, 125, 126, 127, 128, 129, 130] (by decide +kernel) (by decide +kernel)
set_option maxRecDepth 20000 in
theorem gX11_ask_X11_entriesFrom : GoodIn wsX11_ask (wsV RX11 240 RX11 yX11_entriesFrom wsX11_entriesFrom) := goodIn_app (goodIn_of _ (by decide +kernel)) ggX11_ask_X11_entriesFrom
theorem dX11_ask_0 : decode cX11_ask 0 = .ok (.iload_n 1, 1) := by decide +kernel
theorem dX11_ask_1 : decode cX11_ask 1 = .ok (.iconst 0, 1) := by decide +kernel
theorem dX11_ask_2 : decode cX11_ask 2 = .ok (.sipush 999, 3) := by decide +kernel
theorem dX11_ask_5 : decode cX11_ask 5 = .ok (.invokestatic 207, 3) := by decide +kernel
theorem dX11_ask_8 : decode cX11_ask 8 = .ok (.ifCond .ne 6, 3) := by decide +kernel
theorem dX11_ask_11 : decode cX11_ask 11 = .ok (.bipush (-2), 2) := by decide +kernel
theorem dX11_ask_13 : decode cX11_ask 13 = .ok (.ireturn, 1) := by decide +kernel
theorem dX11_ask_14 : decode cX11_ask 14 = .ok (.aload_n 0, 1) := by decide +kernel
theorem dX11_ask_15 : decode cX11_ask 15 = .ok (.iload_n 1, 1) := by decide +kernel
theorem dX11_ask_16 : decode cX11_ask 16 = .ok (.invokevirtual 330, 3) := by decide +kernel
theorem dX11_ask_19 : decode cX11_ask 19 = .ok (.istore_n 2, 1) := by decide +kernel
theorem dX11_ask_20 : decode cX11_ask 20 = .ok (.iconst 0, 1) := by decide +kernel
theorem dX11_ask_21 : decode cX11_ask 21 = .ok (.istore_n 3, 1) := by decide +kernel
theorem dX11_ask_22 : decode cX11_ask 22 = .ok (.iload_n 3, 1) := by decide +kernel
theorem dX11_ask_23 : decode cX11_ask 23 = .ok (.sipush 6400, 3) := by decide +kernel
theorem dX11_ask_26 : decode cX11_ask 26 = .ok (.if_icmp .ge 16, 3) := by decide +kernel
theorem dX11_ask_29 : decode cX11_ask 29 = .ok (.aload_n 0, 1) := by decide +kernel
theorem dX11_ask_30 : decode cX11_ask 30 = .ok (.getfield 95, 3) := by decide +kernel
theorem dX11_ask_33 : decode cX11_ask 33 = .ok (.iload_n 3, 1) := by decide +kernel
theorem dX11_ask_34 : decode cX11_ask 34 = .ok (.iconst 0, 1) := by decide +kernel
theorem dX11_ask_35 : decode cX11_ask 35 = .ok (.iastore, 1) := by decide +kernel
theorem dX11_ask_36 : decode cX11_ask 36 = .ok (.iinc 3 1, 3) := by decide +kernel
theorem dX11_ask_39 : decode cX11_ask 39 = .ok (.goto (-17), 3) := by decide +kernel
theorem dX11_ask_42 : decode cX11_ask 42 = .ok (.iconst 0, 1) := by decide +kernel
theorem dX11_ask_43 : decode cX11_ask 43 = .ok (.istore_n 3, 1) := by decide +kernel
theorem dX11_ask_44 : decode cX11_ask 44 = .ok (.iload_n 3, 1) := by decide +kernel
theorem dX11_ask_45 : decode cX11_ask 45 = .ok (.aload_n 0, 1) := by decide +kernel
theorem dX11_ask_46 : decode cX11_ask 46 = .ok (.getfield 177, 3) := by decide +kernel
theorem dX11_ask_49 : decode cX11_ask 49 = .ok (.if_icmp .ge 104, 3) := by decide +kernel
theorem dX11_ask_52 : decode cX11_ask 52 = .ok (.aload_n 0, 1) := by decide +kernel
theorem dX11_ask_53 : decode cX11_ask 53 = .ok (.getfield 91, 3) := by decide +kernel
theorem dX11_ask_56 : decode cX11_ask 56 = .ok (.iload_n 3, 1) := by decide +kernel
theorem dX11_ask_57 : decode cX11_ask 57 = .ok (.baload, 1) := by decide +kernel
theorem dX11_ask_58 : decode cX11_ask 58 = .ok (.ifCond .ne 6, 3) := by decide +kernel
theorem dX11_ask_61 : decode cX11_ask 61 = .ok (.goto 86, 3) := by decide +kernel
theorem dX11_ask_64 : decode cX11_ask 64 = .ok (.iconst 0, 1) := by decide +kernel
theorem dX11_ask_65 : decode cX11_ask 65 = .ok (.istore 4, 2) := by decide +kernel
theorem dX11_ask_67 : decode cX11_ask 67 = .ok (.iload 4, 2) := by decide +kernel
theorem dX11_ask_69 : decode cX11_ask 69 = .ok (.aload_n 0, 1) := by decide +kernel
theorem dX11_ask_70 : decode cX11_ask 70 = .ok (.getfield 98, 3) := by decide +kernel
theorem dX11_ask_73 : decode cX11_ask 73 = .ok (.if_icmp .ge 74, 3) := by decide +kernel
theorem dX11_ask_76 : decode cX11_ask 76 = .ok (.aload_n 0, 1) := by decide +kernel
theorem dX11_ask_77 : decode cX11_ask 77 = .ok (.aload_n 0, 1) := by decide +kernel
theorem dX11_ask_78 : decode cX11_ask 78 = .ok (.getfield 98, 3) := by decide +kernel
theorem dX11_ask_81 : decode cX11_ask 81 = .ok (.aload_n 0, 1) := by decide +kernel
theorem dX11_ask_82 : decode cX11_ask 82 = .ok (.getfield 27, 3) := by decide +kernel
theorem dX11_ask_85 : decode cX11_ask 85 = .ok (.iload_n 3, 1) := by decide +kernel
theorem dX11_ask_86 : decode cX11_ask 86 = .ok (.laload, 1) := by decide +kernel
theorem dX11_ask_87 : decode cX11_ask 87 = .ok (.iload 4, 2) := by decide +kernel
theorem dX11_ask_89 : decode cX11_ask 89 = .ok (.invokevirtual 240, 3) := by decide +kernel
theorem dX11_ask_92 : decode cX11_ask 92 = .ok (.iload 4, 2) := by decide +kernel
theorem dX11_ask_94 : decode cX11_ask 94 = .ok (.iconst 1, 1) := by decide +kernel
theorem dX11_ask_95 : decode cX11_ask 95 = .ok (.iadd, 1) := by decide +kernel
theorem dX11_ask_96 : decode cX11_ask 96 = .ok (.istore 5, 2) := by decide +kernel
theorem dX11_ask_98 : decode cX11_ask 98 = .ok (.iload 5, 2) := by decide +kernel
theorem dX11_ask_100 : decode cX11_ask 100 = .ok (.aload_n 0, 1) := by decide +kernel
theorem dX11_ask_101 : decode cX11_ask 101 = .ok (.getfield 98, 3) := by decide +kernel
theorem dX11_ask_104 : decode cX11_ask 104 = .ok (.if_icmp .ge 37, 3) := by decide +kernel
theorem dX11_ask_107 : decode cX11_ask 107 = .ok (.aload_n 0, 1) := by decide +kernel
theorem dX11_ask_108 : decode cX11_ask 108 = .ok (.getfield 95, 3) := by decide +kernel
theorem dX11_ask_111 : decode cX11_ask 111 = .ok (.bipush 64, 2) := by decide +kernel
theorem dX11_ask_113 : decode cX11_ask 113 = .ok (.bipush 10, 2) := by decide +kernel
theorem dX11_ask_115 : decode cX11_ask 115 = .ok (.iload 4, 2) := by decide +kernel
theorem dX11_ask_117 : decode cX11_ask 117 = .ok (.imul, 1) := by decide +kernel
theorem dX11_ask_118 : decode cX11_ask 118 = .ok (.iload 5, 2) := by decide +kernel
theorem dX11_ask_120 : decode cX11_ask 120 = .ok (.iadd, 1) := by decide +kernel
theorem dX11_ask_121 : decode cX11_ask 121 = .ok (.imul, 1) := by decide +kernel
theorem dX11_ask_122 : decode cX11_ask 122 = .ok (.aload_n 0, 1) := by decide +kernel
theorem dX11_ask_123 : decode cX11_ask 123 = .ok (.getfield 40, 3) := by decide +kernel
theorem dX11_ask_126 : decode cX11_ask 126 = .ok (.iload 5, 2) := by decide +kernel
theorem dX11_ask_128 : decode cX11_ask 128 = .ok (.iaload, 1) := by decide +kernel
theorem dX11_ask_129 : decode cX11_ask 129 = .ok (.iadd, 1) := by decide +kernel
theorem dX11_ask_130 : decode cX11_ask 130 = .ok (.dup2, 1) := by decide +kernel
theorem dX11_ask_131 : decode cX11_ask 131 = .ok (.iaload, 1) := by decide +kernel
theorem dX11_ask_132 : decode cX11_ask 132 = .ok (.iconst 1, 1) := by decide +kernel
theorem dX11_ask_133 : decode cX11_ask 133 = .ok (.iadd, 1) := by decide +kernel
theorem dX11_ask_134 : decode cX11_ask 134 = .ok (.iastore, 1) := by decide +kernel
theorem dX11_ask_135 : decode cX11_ask 135 = .ok (.iinc 5 1, 3) := by decide +kernel
theorem dX11_ask_138 : decode cX11_ask 138 = .ok (.goto (-40), 3) := by decide +kernel
theorem dX11_ask_141 : decode cX11_ask 141 = .ok (.iinc 4 1, 3) := by decide +kernel
theorem dX11_ask_144 : decode cX11_ask 144 = .ok (.goto (-77), 3) := by decide +kernel
theorem dX11_ask_147 : decode cX11_ask 147 = .ok (.iinc 3 1, 3) := by decide +kernel
theorem dX11_ask_150 : decode cX11_ask 150 = .ok (.goto (-106), 3) := by decide +kernel
theorem dX11_ask_153 : decode cX11_ask 153 = .ok (.iconst (-1), 1) := by decide +kernel
theorem dX11_ask_154 : decode cX11_ask 154 = .ok (.istore_n 3, 1) := by decide +kernel
theorem dX11_ask_155 : decode cX11_ask 155 = .ok (.iload_n 2, 1) := by decide +kernel
theorem dX11_ask_156 : decode cX11_ask 156 = .ok (.istore 4, 2) := by decide +kernel
theorem dX11_ask_158 : decode cX11_ask 158 = .ok (.iconst 0, 1) := by decide +kernel
theorem dX11_ask_159 : decode cX11_ask 159 = .ok (.istore 5, 2) := by decide +kernel
theorem dX11_ask_161 : decode cX11_ask 161 = .ok (.iload 5, 2) := by decide +kernel
theorem dX11_ask_163 : decode cX11_ask 163 = .ok (.aload_n 0, 1) := by decide +kernel
theorem dX11_ask_164 : decode cX11_ask 164 = .ok (.getfield 98, 3) := by decide +kernel
theorem dX11_ask_167 : decode cX11_ask 167 = .ok (.if_icmp .ge 122, 3) := by decide +kernel
theorem dX11_ask_170 : decode cX11_ask 170 = .ok (.iload 5, 2) := by decide +kernel
theorem dX11_ask_172 : decode cX11_ask 172 = .ok (.iconst 1, 1) := by decide +kernel
theorem dX11_ask_173 : decode cX11_ask 173 = .ok (.iadd, 1) := by decide +kernel
theorem dX11_ask_174 : decode cX11_ask 174 = .ok (.istore 6, 2) := by decide +kernel
theorem dX11_ask_176 : decode cX11_ask 176 = .ok (.iload 6, 2) := by decide +kernel
theorem dX11_ask_178 : decode cX11_ask 178 = .ok (.aload_n 0, 1) := by decide +kernel
theorem dX11_ask_179 : decode cX11_ask 179 = .ok (.getfield 98, 3) := by decide +kernel
theorem dX11_ask_182 : decode cX11_ask 182 = .ok (.if_icmp .ge 101, 3) := by decide +kernel
theorem dX11_ask_185 : decode cX11_ask 185 = .ok (.iconst 0, 1) := by decide +kernel
theorem dX11_ask_186 : decode cX11_ask 186 = .ok (.istore 7, 2) := by decide +kernel
theorem dX11_ask_188 : decode cX11_ask 188 = .ok (.iconst 0, 1) := by decide +kernel
theorem dX11_ask_189 : decode cX11_ask 189 = .ok (.istore 8, 2) := by decide +kernel
theorem dX11_ask_191 : decode cX11_ask 191 = .ok (.iload 8, 2) := by decide +kernel
theorem dX11_ask_193 : decode cX11_ask 193 = .ok (.bipush 64, 2) := by decide +kernel
theorem dX11_ask_195 : decode cX11_ask 195 = .ok (.if_icmp .ge 59, 3) := by decide +kernel
theorem dX11_ask_198 : decode cX11_ask 198 = .ok (.aload_n 0, 1) := by decide +kernel
theorem dX11_ask_199 : decode cX11_ask 199 = .ok (.getfield 95, 3) := by decide +kernel
theorem dX11_ask_202 : decode cX11_ask 202 = .ok (.bipush 64, 2) := by decide +kernel
theorem dX11_ask_204 : decode cX11_ask 204 = .ok (.bipush 10, 2) := by decide +kernel
theorem dX11_ask_206 : decode cX11_ask 206 = .ok (.iload 5, 2) := by decide +kernel
theorem dX11_ask_208 : decode cX11_ask 208 = .ok (.imul, 1) := by decide +kernel
theorem dX11_ask_209 : decode cX11_ask 209 = .ok (.iload 6, 2) := by decide +kernel
theorem dX11_ask_211 : decode cX11_ask 211 = .ok (.iadd, 1) := by decide +kernel
theorem dX11_ask_212 : decode cX11_ask 212 = .ok (.imul, 1) := by decide +kernel
theorem dX11_ask_213 : decode cX11_ask 213 = .ok (.iload 8, 2) := by decide +kernel
theorem dX11_ask_215 : decode cX11_ask 215 = .ok (.iadd, 1) := by decide +kernel
theorem dX11_ask_216 : decode cX11_ask 216 = .ok (.iaload, 1) := by decide +kernel
theorem dX11_ask_217 : decode cX11_ask 217 = .ok (.iload 7, 2) := by decide +kernel
theorem dX11_ask_219 : decode cX11_ask 219 = .ok (.if_icmp .le 25, 3) := by decide +kernel
theorem dX11_ask_222 : decode cX11_ask 222 = .ok (.aload_n 0, 1) := by decide +kernel
theorem dX11_ask_223 : decode cX11_ask 223 = .ok (.getfield 95, 3) := by decide +kernel
theorem dX11_ask_226 : decode cX11_ask 226 = .ok (.bipush 64, 2) := by decide +kernel
theorem dX11_ask_228 : decode cX11_ask 228 = .ok (.bipush 10, 2) := by decide +kernel
theorem dX11_ask_230 : decode cX11_ask 230 = .ok (.iload 5, 2) := by decide +kernel
theorem dX11_ask_232 : decode cX11_ask 232 = .ok (.imul, 1) := by decide +kernel
theorem dX11_ask_233 : decode cX11_ask 233 = .ok (.iload 6, 2) := by decide +kernel
theorem dX11_ask_235 : decode cX11_ask 235 = .ok (.iadd, 1) := by decide +kernel
theorem dX11_ask_236 : decode cX11_ask 236 = .ok (.imul, 1) := by decide +kernel
theorem dX11_ask_237 : decode cX11_ask 237 = .ok (.iload 8, 2) := by decide +kernel
theorem dX11_ask_239 : decode cX11_ask 239 = .ok (.iadd, 1) := by decide +kernel
theorem dX11_ask_240 : decode cX11_ask 240 = .ok (.iaload, 1) := by decide +kernel
theorem dX11_ask_241 : decode cX11_ask 241 = .ok (.goto 5, 3) := by decide +kernel
theorem dX11_ask_244 : decode cX11_ask 244 = .ok (.iload 7, 2) := by decide +kernel
theorem dX11_ask_246 : decode cX11_ask 246 = .ok (.istore 7, 2) := by decide +kernel
theorem dX11_ask_248 : decode cX11_ask 248 = .ok (.iinc 8 1, 3) := by decide +kernel
theorem dX11_ask_251 : decode cX11_ask 251 = .ok (.goto (-60), 3) := by decide +kernel
theorem dX11_ask_254 : decode cX11_ask 254 = .ok (.iload 7, 2) := by decide +kernel
theorem dX11_ask_256 : decode cX11_ask 256 = .ok (.iload 4, 2) := by decide +kernel
theorem dX11_ask_258 : decode cX11_ask 258 = .ok (.if_icmp .lt 6, 3) := by decide +kernel
theorem dX11_ask_261 : decode cX11_ask 261 = .ok (.goto 16, 3) := by decide +kernel
theorem dX11_ask_264 : decode cX11_ask 264 = .ok (.iload 7, 2) := by decide +kernel
theorem dX11_ask_266 : decode cX11_ask 266 = .ok (.istore 4, 2) := by decide +kernel
theorem dX11_ask_268 : decode cX11_ask 268 = .ok (.bipush 16, 2) := by decide +kernel
theorem dX11_ask_270 : decode cX11_ask 270 = .ok (.iload 5, 2) := by decide +kernel
theorem dX11_ask_272 : decode cX11_ask 272 = .ok (.imul, 1) := by decide +kernel
theorem dX11_ask_273 : decode cX11_ask 273 = .ok (.iload 6, 2) := by decide +kernel
theorem dX11_ask_275 : decode cX11_ask 275 = .ok (.iadd, 1) := by decide +kernel
theorem dX11_ask_276 : decode cX11_ask 276 = .ok (.istore_n 3, 1) := by decide +kernel
theorem dX11_ask_277 : decode cX11_ask 277 = .ok (.iinc 6 1, 3) := by decide +kernel
theorem dX11_ask_280 : decode cX11_ask 280 = .ok (.goto (-104), 3) := by decide +kernel
theorem dX11_ask_283 : decode cX11_ask 283 = .ok (.iinc 5 1, 3) := by decide +kernel
theorem dX11_ask_286 : decode cX11_ask 286 = .ok (.goto (-125), 3) := by decide +kernel
theorem dX11_ask_289 : decode cX11_ask 289 = .ok (.iload_n 3, 1) := by decide +kernel
theorem dX11_ask_290 : decode cX11_ask 290 = .ok (.ireturn, 1) := by decide +kernel
theorem dX11_count_0 : decode cX11_count 0 = .ok (.iload_n 1, 1) := by decide +kernel
theorem dX11_count_1 : decode cX11_count 1 = .ok (.ifCond .ne 10, 3) := by decide +kernel
theorem dX11_count_4 : decode cX11_count 4 = .ok (.aload_n 0, 1) := by decide +kernel
theorem dX11_count_5 : decode cX11_count 5 = .ok (.getfield 192, 3) := by decide +kernel
theorem dX11_count_8 : decode cX11_count 8 = .ok (.goto 28, 3) := by decide +kernel
theorem dX11_count_11 : decode cX11_count 11 = .ok (.iload_n 1, 1) := by decide +kernel
theorem dX11_count_12 : decode cX11_count 12 = .ok (.iconst 1, 1) := by decide +kernel
theorem dX11_count_13 : decode cX11_count 13 = .ok (.if_icmp .ne 10, 3) := by decide +kernel
theorem dX11_count_16 : decode cX11_count 16 = .ok (.aload_n 0, 1) := by decide +kernel
theorem dX11_count_17 : decode cX11_count 17 = .ok (.getfield 195, 3) := by decide +kernel
theorem dX11_count_20 : decode cX11_count 20 = .ok (.goto 16, 3) := by decide +kernel
theorem dX11_count_23 : decode cX11_count 23 = .ok (.iload_n 1, 1) := by decide +kernel
theorem dX11_count_24 : decode cX11_count 24 = .ok (.iconst 2, 1) := by decide +kernel
theorem dX11_count_25 : decode cX11_count 25 = .ok (.if_icmp .ne 10, 3) := by decide +kernel
theorem dX11_count_28 : decode cX11_count 28 = .ok (.aload_n 0, 1) := by decide +kernel
theorem dX11_count_29 : decode cX11_count 29 = .ok (.getfield 112, 3) := by decide +kernel
theorem dX11_count_32 : decode cX11_count 32 = .ok (.goto 4, 3) := by decide +kernel
theorem dX11_count_35 : decode cX11_count 35 = .ok (.iconst (-1), 1) := by decide +kernel
theorem dX11_count_36 : decode cX11_count 36 = .ok (.ireturn, 1) := by decide +kernel
