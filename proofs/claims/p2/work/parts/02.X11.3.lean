theorem dX11_crossed_16 : decode cX11_crossed 16 = .ok (.iload_n 1, 1) := by decide +kernel
theorem dX11_crossed_17 : decode cX11_crossed 17 = .ok (.iload_n 2, 1) := by decide +kernel
theorem dX11_crossed_18 : decode cX11_crossed 18 = .ok (.if_icmp .ne 6, 3) := by decide +kernel
theorem dX11_crossed_21 : decode cX11_crossed 21 = .ok (.bipush (-2), 2) := by decide +kernel
theorem dX11_crossed_23 : decode cX11_crossed 23 = .ok (.ireturn, 1) := by decide +kernel
theorem dX11_crossed_24 : decode cX11_crossed 24 = .ok (.aload_n 0, 1) := by decide +kernel
theorem dX11_crossed_25 : decode cX11_crossed 25 = .ok (.iload_n 1, 1) := by decide +kernel
theorem dX11_crossed_26 : decode cX11_crossed 26 = .ok (.iload_n 2, 1) := by decide +kernel
theorem dX11_crossed_27 : decode cX11_crossed 27 = .ok (.invokevirtual 306, 3) := by decide +kernel
theorem dX11_crossed_30 : decode cX11_crossed 30 = .ok (.iload_n 3, 1) := by decide +kernel
theorem dX11_crossed_31 : decode cX11_crossed 31 = .ok (.iconst (-1), 1) := by decide +kernel
theorem dX11_crossed_32 : decode cX11_crossed 32 = .ok (.if_icmp .ne 8, 3) := by decide +kernel
theorem dX11_crossed_35 : decode cX11_crossed 35 = .ok (.aload_n 0, 1) := by decide +kernel
theorem dX11_crossed_36 : decode cX11_crossed 36 = .ok (.getfield 303, 3) := by decide +kernel
theorem dX11_crossed_39 : decode cX11_crossed 39 = .ok (.ireturn, 1) := by decide +kernel
theorem dX11_crossed_40 : decode cX11_crossed 40 = .ok (.iload_n 3, 1) := by decide +kernel
theorem dX11_crossed_41 : decode cX11_crossed 41 = .ok (.iconst 0, 1) := by decide +kernel
theorem dX11_crossed_42 : decode cX11_crossed 42 = .ok (.aload_n 0, 1) := by decide +kernel
theorem dX11_crossed_43 : decode cX11_crossed 43 = .ok (.getfield 303, 3) := by decide +kernel
theorem dX11_crossed_46 : decode cX11_crossed 46 = .ok (.iconst 1, 1) := by decide +kernel
theorem dX11_crossed_47 : decode cX11_crossed 47 = .ok (.isub, 1) := by decide +kernel
theorem dX11_crossed_48 : decode cX11_crossed 48 = .ok (.invokestatic 207, 3) := by decide +kernel
theorem dX11_crossed_51 : decode cX11_crossed 51 = .ok (.ifCond .eq 32, 3) := by decide +kernel
theorem dX11_crossed_54 : decode cX11_crossed 54 = .ok (.bipush 16, 2) := by decide +kernel
theorem dX11_crossed_56 : decode cX11_crossed 56 = .ok (.aload_n 0, 1) := by decide +kernel
theorem dX11_crossed_57 : decode cX11_crossed 57 = .ok (.getfield 21, 3) := by decide +kernel
theorem dX11_crossed_60 : decode cX11_crossed 60 = .ok (.aload_n 0, 1) := by decide +kernel
theorem dX11_crossed_61 : decode cX11_crossed 61 = .ok (.getfield 61, 3) := by decide +kernel
theorem dX11_crossed_64 : decode cX11_crossed 64 = .ok (.iload_n 3, 1) := by decide +kernel
theorem dX11_crossed_65 : decode cX11_crossed 65 = .ok (.iaload, 1) := by decide +kernel
theorem dX11_crossed_66 : decode cX11_crossed 66 = .ok (.iaload, 1) := by decide +kernel
theorem dX11_crossed_67 : decode cX11_crossed 67 = .ok (.imul, 1) := by decide +kernel
theorem dX11_crossed_68 : decode cX11_crossed 68 = .ok (.aload_n 0, 1) := by decide +kernel
theorem dX11_crossed_69 : decode cX11_crossed 69 = .ok (.getfield 24, 3) := by decide +kernel
theorem dX11_crossed_72 : decode cX11_crossed 72 = .ok (.aload_n 0, 1) := by decide +kernel
theorem dX11_crossed_73 : decode cX11_crossed 73 = .ok (.getfield 61, 3) := by decide +kernel
theorem dX11_crossed_76 : decode cX11_crossed 76 = .ok (.iload_n 3, 1) := by decide +kernel
theorem dX11_crossed_77 : decode cX11_crossed 77 = .ok (.iaload, 1) := by decide +kernel
theorem dX11_crossed_78 : decode cX11_crossed 78 = .ok (.iaload, 1) := by decide +kernel
theorem dX11_crossed_79 : decode cX11_crossed 79 = .ok (.iadd, 1) := by decide +kernel
theorem dX11_crossed_80 : decode cX11_crossed 80 = .ok (.goto 4, 3) := by decide +kernel
theorem dX11_crossed_83 : decode cX11_crossed 83 = .ok (.iconst (-1), 1) := by decide +kernel
theorem dX11_crossed_84 : decode cX11_crossed 84 = .ok (.ireturn, 1) := by decide +kernel
set_option maxRecDepth 20000 in
theorem ggX11_side_X11_isCorner : GoodIn wsX11_side wsX11_isCorner := goodIn_r _ [10, 5, 11, 12, 9, 13, 39, 40, 41, 42, 43, 44, 45, 46, 47, 48, 49, 50, 51, 52, 53, 54, 55, 56, 57, 58, 59, 60, 61, 62, 63, 64, 65, 66, 67, 68, 69, 70, 71, 72, 73, 74, 75, 76, 77, 78, 79, 80, 81, 82, 83, 84, 85, 86, 87, 88, 89, 90, 91, 92] (by decide +kernel) (by decide +kernel)
set_option maxRecDepth 20000 in
theorem gX11_side_X11_isCorner : GoodIn wsX11_side (wsV RX11 244 RX11 yX11_isCorner wsX11_isCorner) := goodIn_app (goodIn_of _ (by decide +kernel)) ggX11_side_X11_isCorner
set_option maxRecDepth 20000 in
theorem ggX11_side_X11_cross : GoodIn wsX11_side wsX11_cross := goodIn_r _ [17, 5, 1, 18, 19, 3, 4, 20, 2, 21, 22, 23, 9, 24, 25, 26, 27, 28, 29, 30, 31, 32, 33, 34, 35, 36, 37, 38, 39, 40, 41, 42, 43, 44, 45, 46, 47, 48, 49, 50, 51, 52, 53, 54, 55, 56, 57, 58, 59, 60, 61, 62, 63, 64, 65, 66, 67, 68, 69, 70, 71, 72, 73, 74, 75, 76, 77, 78, 79, 80, 81, 82, 83, 84, 85, 86, 87, 88, 89, 90, 91, 92] (by decide +kernel) (by decide +kernel)
set_option maxRecDepth 20000 in
theorem gX11_side_X11_cross : GoodIn wsX11_side (wsV RX11 306 RX11 yX11_cross wsX11_cross) := goodIn_app (goodIn_of _ (by decide +kernel)) ggX11_side_X11_cross
set_option maxRecDepth 20000 in
theorem ggX11_side_X11_in : GoodIn wsX11_side wsX11_in := goodIn_r _ [13] (by decide +kernel) (by decide +kernel)
set_option maxRecDepth 20000 in
theorem gX11_side_X11_in : GoodIn wsX11_side (va_wsS RX11 207 yX11_in wsX11_in) := goodIn_app (goodIn_of _ (by decide +kernel)) ggX11_side_X11_in
set_option maxRecDepth 20000 in
theorem ggX11_side_X11_isBetween : GoodIn wsX11_side wsX11_isBetween := goodIn_r _ [38] (by decide +kernel) (by decide +kernel)
set_option maxRecDepth 20000 in
theorem gX11_side_X11_isBetween : GoodIn wsX11_side (va_wsS RX11 167 yX11_isBetween wsX11_isBetween) := goodIn_app (goodIn_of _ (by decide +kernel)) ggX11_side_X11_isBetween
theorem dX11_side_0 : decode cX11_side 0 = .ok (.aload_n 0, 1) := by decide +kernel
theorem dX11_side_1 : decode cX11_side 1 = .ok (.iload_n 1, 1) := by decide +kernel
theorem dX11_side_2 : decode cX11_side 2 = .ok (.invokevirtual 244, 3) := by decide +kernel
theorem dX11_side_5 : decode cX11_side 5 = .ok (.ifCond .eq 16, 3) := by decide +kernel
theorem dX11_side_8 : decode cX11_side 8 = .ok (.aload_n 0, 1) := by decide +kernel
theorem dX11_side_9 : decode cX11_side 9 = .ok (.iload_n 2, 1) := by decide +kernel
theorem dX11_side_10 : decode cX11_side 10 = .ok (.invokevirtual 244, 3) := by decide +kernel
theorem dX11_side_13 : decode cX11_side 13 = .ok (.ifCond .eq 8, 3) := by decide +kernel
theorem dX11_side_16 : decode cX11_side 16 = .ok (.iload_n 1, 1) := by decide +kernel
theorem dX11_side_17 : decode cX11_side 17 = .ok (.iload_n 2, 1) := by decide +kernel
theorem dX11_side_18 : decode cX11_side 18 = .ok (.if_icmp .ne 6, 3) := by decide +kernel
theorem dX11_side_21 : decode cX11_side 21 = .ok (.bipush (-2), 2) := by decide +kernel
theorem dX11_side_23 : decode cX11_side 23 = .ok (.ireturn, 1) := by decide +kernel
theorem dX11_side_24 : decode cX11_side 24 = .ok (.aload_n 0, 1) := by decide +kernel
theorem dX11_side_25 : decode cX11_side 25 = .ok (.iload_n 1, 1) := by decide +kernel
theorem dX11_side_26 : decode cX11_side 26 = .ok (.iload_n 2, 1) := by decide +kernel
theorem dX11_side_27 : decode cX11_side 27 = .ok (.invokevirtual 306, 3) := by decide +kernel
theorem dX11_side_30 : decode cX11_side 30 = .ok (.iload_n 3, 1) := by decide +kernel
theorem dX11_side_31 : decode cX11_side 31 = .ok (.iconst 0, 1) := by decide +kernel
theorem dX11_side_32 : decode cX11_side 32 = .ok (.aload_n 0, 1) := by decide +kernel
theorem dX11_side_33 : decode cX11_side 33 = .ok (.getfield 303, 3) := by decide +kernel
theorem dX11_side_36 : decode cX11_side 36 = .ok (.iconst 2, 1) := by decide +kernel
theorem dX11_side_37 : decode cX11_side 37 = .ok (.isub, 1) := by decide +kernel
theorem dX11_side_38 : decode cX11_side 38 = .ok (.invokestatic 207, 3) := by decide +kernel
theorem dX11_side_41 : decode cX11_side 41 = .ok (.ifCond .ne 5, 3) := by decide +kernel
theorem dX11_side_44 : decode cX11_side 44 = .ok (.iconst (-1), 1) := by decide +kernel
theorem dX11_side_45 : decode cX11_side 45 = .ok (.ireturn, 1) := by decide +kernel
theorem dX11_side_46 : decode cX11_side 46 = .ok (.aload_n 0, 1) := by decide +kernel
theorem dX11_side_47 : decode cX11_side 47 = .ok (.getfield 61, 3) := by decide +kernel
theorem dX11_side_50 : decode cX11_side 50 = .ok (.iload_n 3, 1) := by decide +kernel
theorem dX11_side_51 : decode cX11_side 51 = .ok (.iaload, 1) := by decide +kernel
theorem dX11_side_52 : decode cX11_side 52 = .ok (.istore 4, 2) := by decide +kernel
theorem dX11_side_54 : decode cX11_side 54 = .ok (.aload_n 0, 1) := by decide +kernel
theorem dX11_side_55 : decode cX11_side 55 = .ok (.getfield 61, 3) := by decide +kernel
theorem dX11_side_58 : decode cX11_side 58 = .ok (.iload_n 3, 1) := by decide +kernel
theorem dX11_side_59 : decode cX11_side 59 = .ok (.iconst 1, 1) := by decide +kernel
theorem dX11_side_60 : decode cX11_side 60 = .ok (.iadd, 1) := by decide +kernel
theorem dX11_side_61 : decode cX11_side 61 = .ok (.iaload, 1) := by decide +kernel
theorem dX11_side_62 : decode cX11_side 62 = .ok (.istore 5, 2) := by decide +kernel
theorem dX11_side_64 : decode cX11_side 64 = .ok (.aload_n 0, 1) := by decide +kernel
theorem dX11_side_65 : decode cX11_side 65 = .ok (.getfield 21, 3) := by decide +kernel
theorem dX11_side_68 : decode cX11_side 68 = .ok (.iload 4, 2) := by decide +kernel
theorem dX11_side_70 : decode cX11_side 70 = .ok (.iaload, 1) := by decide +kernel
theorem dX11_side_71 : decode cX11_side 71 = .ok (.aload_n 0, 1) := by decide +kernel
theorem dX11_side_72 : decode cX11_side 72 = .ok (.getfield 21, 3) := by decide +kernel
theorem dX11_side_75 : decode cX11_side 75 = .ok (.iload 5, 2) := by decide +kernel
theorem dX11_side_77 : decode cX11_side 77 = .ok (.iaload, 1) := by decide +kernel
theorem dX11_side_78 : decode cX11_side 78 = .ok (.if_icmp .eq 20, 3) := by decide +kernel
theorem dX11_side_81 : decode cX11_side 81 = .ok (.aload_n 0, 1) := by decide +kernel
theorem dX11_side_82 : decode cX11_side 82 = .ok (.getfield 21, 3) := by decide +kernel
theorem dX11_side_85 : decode cX11_side 85 = .ok (.iload 4, 2) := by decide +kernel
theorem dX11_side_87 : decode cX11_side 87 = .ok (.iaload, 1) := by decide +kernel
theorem dX11_side_88 : decode cX11_side 88 = .ok (.aload_n 0, 1) := by decide +kernel
theorem dX11_side_89 : decode cX11_side 89 = .ok (.getfield 24, 3) := by decide +kernel
theorem dX11_side_92 : decode cX11_side 92 = .ok (.iload 5, 2) := by decide +kernel
theorem dX11_side_94 : decode cX11_side 94 = .ok (.iaload, 1) := by decide +kernel
theorem dX11_side_95 : decode cX11_side 95 = .ok (.if_icmp .ne 13, 3) := by decide +kernel
theorem dX11_side_98 : decode cX11_side 98 = .ok (.aload_n 0, 1) := by decide +kernel
theorem dX11_side_99 : decode cX11_side 99 = .ok (.getfield 21, 3) := by decide +kernel
theorem dX11_side_102 : decode cX11_side 102 = .ok (.iload 4, 2) := by decide +kernel
theorem dX11_side_104 : decode cX11_side 104 = .ok (.iaload, 1) := by decide +kernel
theorem dX11_side_105 : decode cX11_side 105 = .ok (.goto 10, 3) := by decide +kernel
theorem dX11_side_108 : decode cX11_side 108 = .ok (.aload_n 0, 1) := by decide +kernel
theorem dX11_side_109 : decode cX11_side 109 = .ok (.getfield 24, 3) := by decide +kernel
theorem dX11_side_112 : decode cX11_side 112 = .ok (.iload 4, 2) := by decide +kernel
theorem dX11_side_114 : decode cX11_side 114 = .ok (.iaload, 1) := by decide +kernel
theorem dX11_side_115 : decode cX11_side 115 = .ok (.istore 6, 2) := by decide +kernel
theorem dX11_side_117 : decode cX11_side 117 = .ok (.aload_n 0, 1) := by decide +kernel
theorem dX11_side_118 : decode cX11_side 118 = .ok (.getfield 98, 3) := by decide +kernel
theorem dX11_side_121 : decode cX11_side 121 = .ok (.iload_n 1, 1) := by decide +kernel
theorem dX11_side_122 : decode cX11_side 122 = .ok (.iload 6, 2) := by decide +kernel
theorem dX11_side_124 : decode cX11_side 124 = .ok (.iload_n 2, 1) := by decide +kernel
theorem dX11_side_125 : decode cX11_side 125 = .ok (.invokestatic 167, 3) := by decide +kernel
theorem dX11_side_128 : decode cX11_side 128 = .ok (.ifCond .eq 7, 3) := by decide +kernel
theorem dX11_side_131 : decode cX11_side 131 = .ok (.iconst 0, 1) := by decide +kernel
theorem dX11_side_132 : decode cX11_side 132 = .ok (.goto 4, 3) := by decide +kernel
theorem dX11_side_135 : decode cX11_side 135 = .ok (.iconst 1, 1) := by decide +kernel
theorem dX11_side_136 : decode cX11_side 136 = .ok (.ireturn, 1) := by decide +kernel
set_option maxRecDepth 20000 in
theorem ggX11_greatest_X11_in : GoodIn wsX11_greatest wsX11_in := goodIn_r _ [7] (by decide +kernel) (by decide +kernel)
set_option maxRecDepth 20000 in
theorem gX11_greatest_X11_in : GoodIn wsX11_greatest (va_wsS RX11 207 yX11_in wsX11_in) := goodIn_app (goodIn_of _ (by decide +kernel)) ggX11_greatest_X11_in
set_option maxRecDepth 20000 in
theorem ggX11_greatest_X11_listFor : GoodIn wsX11_greatest wsX11_listFor := goodIn_r _ [11, 12, 1, 2, 13, 14, 15, 6, 16, 17, 18, 19, 20, 21, 22, 23, 24, 25, 26, 27, 28, 29, 30, 31, 32, 33, 34, 35, 36, 37, 53, 54, 55, 56, 57, 58, 59, 60, 61, 62, 63, 64, 65, 66, 67, 68, 69, 70, 71, 72, 73, 74, 75, 76, 77, 78, 79, 80, 81, 82, 83, 84, 85, 86, 87, 88, 89, 90, 91, 92, 93, 94, 95, 96, 97, 98, 99, 100, 101, 102, 103, 104, 105, 106] (by decide +kernel) (by decide +kernel)
set_option maxRecDepth 20000 in
theorem gX11_greatest_X11_listFor : GoodIn wsX11_greatest (wsV RX11 101 RX11 yX11_listFor wsX11_listFor) := goodIn_app (goodIn_of _ (by decide +kernel)) ggX11_greatest_X11_listFor
set_option maxRecDepth 20000 in
theorem ggX11_greatest_X11_entriesFrom : GoodIn wsX11_greatest wsX11_entriesFrom := goodIn_r _ [41, 3, 42, 43, 44, 45, 46, 47, 6, 48, 13, 14, 15, 16, 17, 18, 19, 20, 21, 22, 23, 24, 25, 26, 27, 49, 50, 51, 52, 53, 54, 55, 56, 57, 58, 59, 60, 61, 62, 63, 64, 65, 66, 67, 68, 69, 70, 71, 72, 73, 74, 75, 76, 77, 78, 79, 80, 81, 82, 83, 84, 85, 86, 87, 88, 89, 90, 91, 92, 93, 94, 95, 96, 97, 98, 99, 100, 101, 102, 103, 104, 105, 106] (by decide +kernel) (by decide +kernel)
set_option maxRecDepth 20000 in
theorem gX11_greatest_X11_entriesFrom : GoodIn wsX11_greatest (wsV RX11 240 RX11 yX11_entriesFrom wsX11_entriesFrom) := goodIn_app (goodIn_of _ (by decide +kernel)) ggX11_greatest_X11_entriesFrom
theorem dX11_greatest_0 : decode cX11_greatest 0 = .ok (.iload_n 1, 1) := by decide +kernel
theorem dX11_greatest_1 : decode cX11_greatest 1 = .ok (.iconst 4, 1) := by decide +kernel
theorem dX11_greatest_2 : decode cX11_greatest 2 = .ok (.bipush 9, 2) := by decide +kernel
theorem dX11_greatest_4 : decode cX11_greatest 4 = .ok (.invokestatic 207, 3) := by decide +kernel
theorem dX11_greatest_7 : decode cX11_greatest 7 = .ok (.ifCond .eq 12, 3) := by decide +kernel
theorem dX11_greatest_10 : decode cX11_greatest 10 = .ok (.iload_n 2, 1) := by decide +kernel
theorem dX11_greatest_11 : decode cX11_greatest 11 = .ok (.iconst 0, 1) := by decide +kernel
theorem dX11_greatest_12 : decode cX11_greatest 12 = .ok (.iconst 1, 1) := by decide +kernel
theorem dX11_greatest_13 : decode cX11_greatest 13 = .ok (.invokestatic 207, 3) := by decide +kernel
theorem dX11_greatest_16 : decode cX11_greatest 16 = .ok (.ifCond .ne 6, 3) := by decide +kernel
theorem dX11_greatest_19 : decode cX11_greatest 19 = .ok (.bipush (-2), 2) := by decide +kernel
theorem dX11_greatest_21 : decode cX11_greatest 21 = .ok (.ireturn, 1) := by decide +kernel
theorem dX11_greatest_22 : decode cX11_greatest 22 = .ok (.aload_n 0, 1) := by decide +kernel
theorem dX11_greatest_23 : decode cX11_greatest 23 = .ok (.iload_n 1, 1) := by decide +kernel
theorem dX11_greatest_24 : decode cX11_greatest 24 = .ok (.invokevirtual 101, 3) := by decide +kernel
theorem dX11_greatest_27 : decode cX11_greatest 27 = .ok (.iconst 0, 1) := by decide +kernel
theorem dX11_greatest_28 : decode cX11_greatest 28 = .ok (.istore_n 3, 1) := by decide +kernel
theorem dX11_greatest_29 : decode cX11_greatest 29 = .ok (.iconst (-1), 1) := by decide +kernel
theorem dX11_greatest_30 : decode cX11_greatest 30 = .ok (.istore 4, 2) := by decide +kernel
theorem dX11_greatest_32 : decode cX11_greatest 32 = .ok (.iconst 0, 1) := by decide +kernel
theorem dX11_greatest_33 : decode cX11_greatest 33 = .ok (.istore 5, 2) := by decide +kernel
theorem dX11_greatest_35 : decode cX11_greatest 35 = .ok (.iload 5, 2) := by decide +kernel
theorem dX11_greatest_37 : decode cX11_greatest 37 = .ok (.aload_n 0, 1) := by decide +kernel
theorem dX11_greatest_38 : decode cX11_greatest 38 = .ok (.getfield 177, 3) := by decide +kernel
theorem dX11_greatest_41 : decode cX11_greatest 41 = .ok (.if_icmp .ge 79, 3) := by decide +kernel
theorem dX11_greatest_44 : decode cX11_greatest 44 = .ok (.iconst 0, 1) := by decide +kernel
theorem dX11_greatest_45 : decode cX11_greatest 45 = .ok (.istore 6, 2) := by decide +kernel
theorem dX11_greatest_47 : decode cX11_greatest 47 = .ok (.iload 6, 2) := by decide +kernel
theorem dX11_greatest_49 : decode cX11_greatest 49 = .ok (.iload_n 1, 1) := by decide +kernel
theorem dX11_greatest_50 : decode cX11_greatest 50 = .ok (.if_icmp .ge 64, 3) := by decide +kernel
theorem dX11_greatest_53 : decode cX11_greatest 53 = .ok (.aload_n 0, 1) := by decide +kernel
theorem dX11_greatest_54 : decode cX11_greatest 54 = .ok (.iload_n 1, 1) := by decide +kernel
theorem dX11_greatest_55 : decode cX11_greatest 55 = .ok (.aload_n 0, 1) := by decide +kernel
theorem dX11_greatest_56 : decode cX11_greatest 56 = .ok (.getfield 27, 3) := by decide +kernel
theorem dX11_greatest_59 : decode cX11_greatest 59 = .ok (.iload 5, 2) := by decide +kernel
theorem dX11_greatest_61 : decode cX11_greatest 61 = .ok (.laload, 1) := by decide +kernel
theorem dX11_greatest_62 : decode cX11_greatest 62 = .ok (.iload 6, 2) := by decide +kernel
theorem dX11_greatest_64 : decode cX11_greatest 64 = .ok (.invokevirtual 240, 3) := by decide +kernel
theorem dX11_greatest_67 : decode cX11_greatest 67 = .ok (.iconst 0, 1) := by decide +kernel
theorem dX11_greatest_68 : decode cX11_greatest 68 = .ok (.istore 7, 2) := by decide +kernel
theorem dX11_greatest_70 : decode cX11_greatest 70 = .ok (.iload 7, 2) := by decide +kernel
theorem dX11_greatest_72 : decode cX11_greatest 72 = .ok (.iload_n 1, 1) := by decide +kernel
theorem dX11_greatest_73 : decode cX11_greatest 73 = .ok (.if_icmp .ge 35, 3) := by decide +kernel
theorem dX11_greatest_76 : decode cX11_greatest 76 = .ok (.aload_n 0, 1) := by decide +kernel
theorem dX11_greatest_77 : decode cX11_greatest 77 = .ok (.getfield 40, 3) := by decide +kernel
theorem dX11_greatest_80 : decode cX11_greatest 80 = .ok (.iload 7, 2) := by decide +kernel
theorem dX11_greatest_82 : decode cX11_greatest 82 = .ok (.iaload, 1) := by decide +kernel
theorem dX11_greatest_83 : decode cX11_greatest 83 = .ok (.iload_n 3, 1) := by decide +kernel
theorem dX11_greatest_84 : decode cX11_greatest 84 = .ok (.if_icmp .gt 6, 3) := by decide +kernel
theorem dX11_greatest_87 : decode cX11_greatest 87 = .ok (.goto 15, 3) := by decide +kernel
theorem dX11_greatest_90 : decode cX11_greatest 90 = .ok (.aload_n 0, 1) := by decide +kernel
theorem dX11_greatest_91 : decode cX11_greatest 91 = .ok (.getfield 40, 3) := by decide +kernel
theorem dX11_greatest_94 : decode cX11_greatest 94 = .ok (.iload 7, 2) := by decide +kernel
theorem dX11_greatest_96 : decode cX11_greatest 96 = .ok (.iaload, 1) := by decide +kernel
theorem dX11_greatest_97 : decode cX11_greatest 97 = .ok (.istore_n 3, 1) := by decide +kernel
theorem dX11_greatest_98 : decode cX11_greatest 98 = .ok (.iload 5, 2) := by decide +kernel
theorem dX11_greatest_100 : decode cX11_greatest 100 = .ok (.istore 4, 2) := by decide +kernel
theorem dX11_greatest_102 : decode cX11_greatest 102 = .ok (.iinc 7 1, 3) := by decide +kernel
theorem dX11_greatest_105 : decode cX11_greatest 105 = .ok (.goto (-35), 3) := by decide +kernel
theorem dX11_greatest_108 : decode cX11_greatest 108 = .ok (.iinc 6 1, 3) := by decide +kernel
theorem dX11_greatest_111 : decode cX11_greatest 111 = .ok (.goto (-64), 3) := by decide +kernel
theorem dX11_greatest_114 : decode cX11_greatest 114 = .ok (.iinc 5 1, 3) := by decide +kernel
theorem dX11_greatest_117 : decode cX11_greatest 117 = .ok (.goto (-82), 3) := by decide +kernel
theorem dX11_greatest_120 : decode cX11_greatest 120 = .ok (.iload_n 2, 1) := by decide +kernel
theorem dX11_greatest_121 : decode cX11_greatest 121 = .ok (.ifCond .ne 7, 3) := by decide +kernel
theorem dX11_greatest_124 : decode cX11_greatest 124 = .ok (.iload_n 3, 1) := by decide +kernel
theorem dX11_greatest_125 : decode cX11_greatest 125 = .ok (.goto 5, 3) := by decide +kernel
theorem dX11_greatest_128 : decode cX11_greatest 128 = .ok (.iload 4, 2) := by decide +kernel
theorem dX11_greatest_130 : decode cX11_greatest 130 = .ok (.ireturn, 1) := by decide +kernel
set_option maxRecDepth 20000 in
theorem ggX11_spread_X11_isCorner : GoodIn wsX11_spread wsX11_isCorner := goodIn_r _ [8, 1, 9, 10, 7, 11, 62, 63, 64, 65, 66, 67, 68, 69, 70, 71, 72, 73, 74, 75, 76, 77, 78, 79, 80, 81, 82, 83, 84, 85, 86, 87, 88, 89, 90, 91, 92, 93, 94, 95, 96, 97, 98, 99, 100, 101, 102, 103, 104, 105, 106, 107, 108, 109, 110, 111, 112, 113, 114, 115] (by decide +kernel) (by decide +kernel)
set_option maxRecDepth 20000 in
theorem gX11_spread_X11_isCorner : GoodIn wsX11_spread (wsV RX11 244 RX11 yX11_isCorner wsX11_isCorner) := goodIn_app (goodIn_of _ (by decide +kernel)) ggX11_spread_X11_isCorner
set_option maxRecDepth 20000 in
theorem ggX11_spread_X11_listFor : GoodIn wsX11_spread wsX11_listFor := goodIn_r _ [15, 16, 2, 3, 17, 18, 19, 7, 20, 21, 22, 23, 24, 25, 26, 27, 28, 29, 30, 31, 32, 33, 34, 35, 36, 37, 38, 39, 40, 41, 62, 63, 64, 65, 66, 67, 68, 69, 70, 71, 72, 73, 74, 75, 76, 77, 78, 79, 80, 81, 82, 83, 84, 85, 86, 87, 88, 89, 90, 91, 92, 93, 94, 95, 96, 97, 98, 99, 100, 101, 102, 103, 104, 105, 106, 107, 108, 109, 110, 111, 112, 113, 114, 115] (by decide +kernel) (by decide +kernel)
set_option maxRecDepth 20000 in
theorem gX11_spread_X11_listFor : GoodIn wsX11_spread (wsV RX11 101 RX11 yX11_listFor wsX11_listFor) := goodIn_app (goodIn_of _ (by decide +kernel)) ggX11_spread_X11_listFor
set_option maxRecDepth 20000 in
theorem ggX11_spread_X11_entryOf : GoodIn wsX11_spread wsX11_entryOf := goodIn_r _ [45, 46, 47, 48, 49, 7, 50, 51, 52, 53, 54, 55, 56, 57, 17, 18, 19, 20, 21, 22, 23, 24, 25, 26, 27, 28, 29, 30, 31, 58, 59, 60, 61, 62, 63, 64, 65, 66, 67, 68, 69, 70, 71, 72, 73, 74, 75, 76, 77, 78, 79, 80, 81, 82, 83, 84, 85, 86, 87, 88, 89, 90, 91, 92, 93, 94, 95, 96, 97, 98, 99, 100, 101, 102, 103, 104, 105, 106, 107, 108, 109, 110, 111, 112, 113, 114, 115] (by decide +kernel) (by decide +kernel)
set_option maxRecDepth 20000 in
theorem gX11_spread_X11_entryOf : GoodIn wsX11_spread (wsV RX11 247 RX11 yX11_entryOf wsX11_entryOf) := goodIn_app (goodIn_of _ (by decide +kernel)) ggX11_spread_X11_entryOf
theorem dX11_spread_0 : decode cX11_spread 0 = .ok (.aload_n 0, 1) := by decide +kernel
theorem dX11_spread_1 : decode cX11_spread 1 = .ok (.iload_n 1, 1) := by decide +kernel
theorem dX11_spread_2 : decode cX11_spread 2 = .ok (.invokevirtual 244, 3) := by decide +kernel
theorem dX11_spread_5 : decode cX11_spread 5 = .ok (.ifCond .eq 11, 3) := by decide +kernel
theorem dX11_spread_8 : decode cX11_spread 8 = .ok (.aload_n 0, 1) := by decide +kernel
theorem dX11_spread_9 : decode cX11_spread 9 = .ok (.iload_n 2, 1) := by decide +kernel
theorem dX11_spread_10 : decode cX11_spread 10 = .ok (.invokevirtual 244, 3) := by decide +kernel
theorem dX11_spread_13 : decode cX11_spread 13 = .ok (.ifCond .ne 6, 3) := by decide +kernel
theorem dX11_spread_16 : decode cX11_spread 16 = .ok (.bipush (-2), 2) := by decide +kernel
theorem dX11_spread_18 : decode cX11_spread 18 = .ok (.ireturn, 1) := by decide +kernel
theorem dX11_spread_19 : decode cX11_spread 19 = .ok (.aload_n 0, 1) := by decide +kernel
theorem dX11_spread_20 : decode cX11_spread 20 = .ok (.aload_n 0, 1) := by decide +kernel
theorem dX11_spread_21 : decode cX11_spread 21 = .ok (.getfield 98, 3) := by decide +kernel
theorem dX11_spread_24 : decode cX11_spread 24 = .ok (.invokevirtual 101, 3) := by decide +kernel
theorem dX11_spread_27 : decode cX11_spread 27 = .ok (.iconst 0, 1) := by decide +kernel
theorem dX11_spread_28 : decode cX11_spread 28 = .ok (.istore 4, 2) := by decide +kernel
theorem dX11_spread_30 : decode cX11_spread 30 = .ok (.iconst 0, 1) := by decide +kernel
theorem dX11_spread_31 : decode cX11_spread 31 = .ok (.istore 5, 2) := by decide +kernel
theorem dX11_spread_33 : decode cX11_spread 33 = .ok (.iload 5, 2) := by decide +kernel
theorem dX11_spread_35 : decode cX11_spread 35 = .ok (.aload_n 0, 1) := by decide +kernel
theorem dX11_spread_36 : decode cX11_spread 36 = .ok (.getfield 177, 3) := by decide +kernel
theorem dX11_spread_39 : decode cX11_spread 39 = .ok (.if_icmp .ge 40, 3) := by decide +kernel
theorem dX11_spread_42 : decode cX11_spread 42 = .ok (.iload 4, 2) := by decide +kernel
theorem dX11_spread_44 : decode cX11_spread 44 = .ok (.aload_n 0, 1) := by decide +kernel
theorem dX11_spread_45 : decode cX11_spread 45 = .ok (.aload_n 0, 1) := by decide +kernel
theorem dX11_spread_46 : decode cX11_spread 46 = .ok (.getfield 98, 3) := by decide +kernel
theorem dX11_spread_49 : decode cX11_spread 49 = .ok (.aload_n 0, 1) := by decide +kernel
theorem dX11_spread_50 : decode cX11_spread 50 = .ok (.getfield 27, 3) := by decide +kernel
theorem dX11_spread_53 : decode cX11_spread 53 = .ok (.iload 5, 2) := by decide +kernel
theorem dX11_spread_55 : decode cX11_spread 55 = .ok (.laload, 1) := by decide +kernel
theorem dX11_spread_56 : decode cX11_spread 56 = .ok (.iload_n 1, 1) := by decide +kernel
theorem dX11_spread_57 : decode cX11_spread 57 = .ok (.iload_n 2, 1) := by decide +kernel
theorem dX11_spread_58 : decode cX11_spread 58 = .ok (.invokevirtual 247, 3) := by decide +kernel
theorem dX11_spread_61 : decode cX11_spread 61 = .ok (.iload_n 3, 1) := by decide +kernel
theorem dX11_spread_62 : decode cX11_spread 62 = .ok (.if_icmp .ne 7, 3) := by decide +kernel
theorem dX11_spread_65 : decode cX11_spread 65 = .ok (.iconst 1, 1) := by decide +kernel
theorem dX11_spread_66 : decode cX11_spread 66 = .ok (.goto 4, 3) := by decide +kernel
theorem dX11_spread_69 : decode cX11_spread 69 = .ok (.iconst 0, 1) := by decide +kernel
theorem dX11_spread_70 : decode cX11_spread 70 = .ok (.iadd, 1) := by decide +kernel
theorem dX11_spread_71 : decode cX11_spread 71 = .ok (.istore 4, 2) := by decide +kernel
theorem dX11_spread_73 : decode cX11_spread 73 = .ok (.iinc 5 1, 3) := by decide +kernel
theorem dX11_spread_76 : decode cX11_spread 76 = .ok (.goto (-43), 3) := by decide +kernel
theorem dX11_spread_79 : decode cX11_spread 79 = .ok (.iload 4, 2) := by decide +kernel
theorem dX11_spread_81 : decode cX11_spread 81 = .ok (.ireturn, 1) := by decide +kernel
set_option maxRecDepth 20000 in
theorem ggX11_period_X11_readRow : GoodIn wsX11_period wsX11_readRow := goodIn_r _ [8, 9, 10, 1, 11, 12, 13, 14, 7, 15, 16, 17, 18, 19, 20, 21, 22, 23, 24, 25, 26, 27, 28, 29, 30, 31, 32, 33, 34, 35, 36, 37, 41, 42, 43, 44, 45, 46, 47, 48, 49, 50, 51, 52, 53, 54, 55, 56, 57, 58, 59, 60, 61, 62, 63, 64, 65, 66, 67, 68, 69, 70, 71, 72, 73, 74, 75, 76, 77, 78, 79, 80, 81, 82, 83, 84, 85, 86, 87, 88, 89, 90, 91, 92, 93, 94] (by decide +kernel) (by decide +kernel)
set_option maxRecDepth 20000 in
theorem gX11_period_X11_readRow : GoodIn wsX11_period (wsV RX11 297 RX11 yX11_readRow wsX11_readRow) := goodIn_app (goodIn_of _ (by decide +kernel)) ggX11_period_X11_readRow
set_option maxRecDepth 20000 in
theorem ggX11_period_X11_in : GoodIn wsX11_period wsX11_in := goodIn_r _ [40] (by decide +kernel) (by decide +kernel)
set_option maxRecDepth 20000 in
theorem gX11_period_X11_in : GoodIn wsX11_period (va_wsS RX11 207 yX11_in wsX11_in) := goodIn_app (goodIn_of _ (by decide +kernel)) ggX11_period_X11_in
theorem dX11_period_0 : decode cX11_period 0 = .ok (.aload_n 0, 1) := by decide +kernel
theorem dX11_period_1 : decode cX11_period 1 = .ok (.invokevirtual 297, 3) := by decide +kernel
theorem dX11_period_4 : decode cX11_period 4 = .ok (.istore_n 1, 1) := by decide +kernel
theorem dX11_period_5 : decode cX11_period 5 = .ok (.iload_n 1, 1) := by decide +kernel
theorem dX11_period_6 : decode cX11_period 6 = .ok (.iconst 1, 1) := by decide +kernel
theorem dX11_period_7 : decode cX11_period 7 = .ok (.bipush 10, 2) := by decide +kernel
theorem dX11_period_9 : decode cX11_period 9 = .ok (.invokestatic 207, 3) := by decide +kernel
theorem dX11_period_12 : decode cX11_period 12 = .ok (.ifCond .ne 6, 3) := by decide +kernel
theorem dX11_period_15 : decode cX11_period 15 = .ok (.bipush (-2), 2) := by decide +kernel
theorem dX11_period_17 : decode cX11_period 17 = .ok (.ireturn, 1) := by decide +kernel
theorem dX11_period_18 : decode cX11_period 18 = .ok (.iconst 0, 1) := by decide +kernel
theorem dX11_period_19 : decode cX11_period 19 = .ok (.istore_n 2, 1) := by decide +kernel
theorem dX11_period_20 : decode cX11_period 20 = .ok (.iload_n 2, 1) := by decide +kernel
theorem dX11_period_21 : decode cX11_period 21 = .ok (.iload_n 1, 1) := by decide +kernel
theorem dX11_period_22 : decode cX11_period 22 = .ok (.if_icmp .ge 27, 3) := by decide +kernel
theorem dX11_period_25 : decode cX11_period 25 = .ok (.aload_n 0, 1) := by decide +kernel
theorem dX11_period_26 : decode cX11_period 26 = .ok (.getfield 55, 3) := by decide +kernel
theorem dX11_period_29 : decode cX11_period 29 = .ok (.iload_n 2, 1) := by decide +kernel
theorem dX11_period_30 : decode cX11_period 30 = .ok (.iaload, 1) := by decide +kernel
theorem dX11_period_31 : decode cX11_period 31 = .ok (.iconst 1, 1) := by decide +kernel
theorem dX11_period_32 : decode cX11_period 32 = .ok (.bipush 20, 2) := by decide +kernel
theorem dX11_period_34 : decode cX11_period 34 = .ok (.invokestatic 207, 3) := by decide +kernel
theorem dX11_period_37 : decode cX11_period 37 = .ok (.ifCond .ne 6, 3) := by decide +kernel
theorem dX11_period_40 : decode cX11_period 40 = .ok (.bipush (-2), 2) := by decide +kernel
theorem dX11_period_42 : decode cX11_period 42 = .ok (.ireturn, 1) := by decide +kernel
theorem dX11_period_43 : decode cX11_period 43 = .ok (.iinc 2 1, 3) := by decide +kernel
theorem dX11_period_46 : decode cX11_period 46 = .ok (.goto (-26), 3) := by decide +kernel
theorem dX11_period_49 : decode cX11_period 49 = .ok (.aload_n 0, 1) := by decide +kernel
theorem dX11_period_50 : decode cX11_period 50 = .ok (.iload_n 1, 1) := by decide +kernel
theorem dX11_period_51 : decode cX11_period 51 = .ok (.putfield 109, 3) := by decide +kernel
theorem dX11_period_54 : decode cX11_period 54 = .ok (.iconst 0, 1) := by decide +kernel
theorem dX11_period_55 : decode cX11_period 55 = .ok (.istore_n 2, 1) := by decide +kernel
theorem dX11_period_56 : decode cX11_period 56 = .ok (.iload_n 2, 1) := by decide +kernel
theorem dX11_period_57 : decode cX11_period 57 = .ok (.iload_n 1, 1) := by decide +kernel
theorem dX11_period_58 : decode cX11_period 58 = .ok (.if_icmp .ge 21, 3) := by decide +kernel
theorem dX11_period_61 : decode cX11_period 61 = .ok (.aload_n 0, 1) := by decide +kernel
theorem dX11_period_62 : decode cX11_period 62 = .ok (.getfield 67, 3) := by decide +kernel
theorem dX11_period_65 : decode cX11_period 65 = .ok (.iload_n 2, 1) := by decide +kernel
theorem dX11_period_66 : decode cX11_period 66 = .ok (.aload_n 0, 1) := by decide +kernel
theorem dX11_period_67 : decode cX11_period 67 = .ok (.getfield 55, 3) := by decide +kernel
theorem dX11_period_70 : decode cX11_period 70 = .ok (.iload_n 2, 1) := by decide +kernel
theorem dX11_period_71 : decode cX11_period 71 = .ok (.iaload, 1) := by decide +kernel
theorem dX11_period_72 : decode cX11_period 72 = .ok (.iastore, 1) := by decide +kernel
theorem dX11_period_73 : decode cX11_period 73 = .ok (.iinc 2 1, 3) := by decide +kernel
theorem dX11_period_76 : decode cX11_period 76 = .ok (.goto (-20), 3) := by decide +kernel
theorem dX11_period_79 : decode cX11_period 79 = .ok (.iload_n 1, 1) := by decide +kernel
theorem dX11_period_80 : decode cX11_period 80 = .ok (.ireturn, 1) := by decide +kernel
set_option maxRecDepth 20000 in
theorem ggX11_ofCut_X11_linesOf : GoodIn wsX11_ofCut wsX11_linesOf := goodIn_r _ [9, 10, 11, 12, 13, 14, 15, 16, 8, 17, 18, 19, 20, 29, 30, 31, 32, 33, 34, 35, 36, 37, 38, 39, 40, 41, 42, 43, 44, 45, 46, 47, 48, 49, 50, 51, 52, 53, 54, 55, 56, 57, 58, 59, 60, 61, 62, 63, 64, 65, 66, 67, 68, 69, 70, 71, 72, 73, 74, 75, 76, 77, 78, 79, 80, 81, 82] (by decide +kernel) (by decide +kernel)
set_option maxRecDepth 20000 in
theorem gX11_ofCut_X11_linesOf : GoodIn wsX11_ofCut (wsV RX11 171 RX11 yX11_linesOf wsX11_linesOf) := goodIn_app (goodIn_of _ (by decide +kernel)) ggX11_ofCut_X11_linesOf
set_option maxRecDepth 20000 in
theorem ggX11_ofCut_X11_rowAt : GoodIn wsX11_ofCut wsX11_rowAt := goodIn_r _ [24, 15, 16, 8, 17, 18, 19, 20, 25, 26, 27, 28, 12, 29, 30, 31, 32, 33, 34, 35, 36, 37, 38, 39, 40, 41, 42, 43, 44, 45, 46, 47, 48, 49, 50, 51, 52, 53, 54, 55, 56, 57, 58, 59, 60, 61, 62, 63, 64, 65, 66, 67, 68, 69, 70, 71, 72, 73, 74, 75, 76, 77, 78, 79, 80, 81, 82] (by decide +kernel) (by decide +kernel)
set_option maxRecDepth 20000 in
theorem gX11_ofCut_X11_rowAt : GoodIn wsX11_ofCut (wsV RX11 251 RX11 yX11_rowAt wsX11_rowAt) := goodIn_app (goodIn_of _ (by decide +kernel)) ggX11_ofCut_X11_rowAt
theorem dX11_ofCut_0 : decode cX11_ofCut 0 = .ok (.aload_n 0, 1) := by decide +kernel
theorem dX11_ofCut_1 : decode cX11_ofCut 1 = .ok (.aload_n 0, 1) := by decide +kernel
theorem dX11_ofCut_2 : decode cX11_ofCut 2 = .ok (.getfield 98, 3) := by decide +kernel
theorem dX11_ofCut_5 : decode cX11_ofCut 5 = .ok (.invokevirtual 171, 3) := by decide +kernel
theorem dX11_ofCut_8 : decode cX11_ofCut 8 = .ok (.aload_n 0, 1) := by decide +kernel
theorem dX11_ofCut_9 : decode cX11_ofCut 9 = .ok (.aload_n 0, 1) := by decide +kernel
theorem dX11_ofCut_10 : decode cX11_ofCut 10 = .ok (.getfield 98, 3) := by decide +kernel
theorem dX11_ofCut_13 : decode cX11_ofCut 13 = .ok (.putfield 109, 3) := by decide +kernel
theorem dX11_ofCut_16 : decode cX11_ofCut 16 = .ok (.iconst 0, 1) := by decide +kernel
theorem dX11_ofCut_17 : decode cX11_ofCut 17 = .ok (.istore_n 1, 1) := by decide +kernel
theorem dX11_ofCut_18 : decode cX11_ofCut 18 = .ok (.iload_n 1, 1) := by decide +kernel
theorem dX11_ofCut_19 : decode cX11_ofCut 19 = .ok (.aload_n 0, 1) := by decide +kernel
theorem dX11_ofCut_20 : decode cX11_ofCut 20 = .ok (.getfield 98, 3) := by decide +kernel
theorem dX11_ofCut_23 : decode cX11_ofCut 23 = .ok (.if_icmp .ge 28, 3) := by decide +kernel
theorem dX11_ofCut_26 : decode cX11_ofCut 26 = .ok (.aload_n 0, 1) := by decide +kernel
theorem dX11_ofCut_27 : decode cX11_ofCut 27 = .ok (.getfield 67, 3) := by decide +kernel
theorem dX11_ofCut_30 : decode cX11_ofCut 30 = .ok (.iload_n 1, 1) := by decide +kernel
theorem dX11_ofCut_31 : decode cX11_ofCut 31 = .ok (.aload_n 0, 1) := by decide +kernel
theorem dX11_ofCut_32 : decode cX11_ofCut 32 = .ok (.aload_n 0, 1) := by decide +kernel
theorem dX11_ofCut_33 : decode cX11_ofCut 33 = .ok (.getfield 98, 3) := by decide +kernel
theorem dX11_ofCut_36 : decode cX11_ofCut 36 = .ok (.aload_n 0, 1) := by decide +kernel
theorem dX11_ofCut_37 : decode cX11_ofCut 37 = .ok (.getfield 105, 3) := by decide +kernel
theorem dX11_ofCut_40 : decode cX11_ofCut 40 = .ok (.iload_n 1, 1) := by decide +kernel
theorem dX11_ofCut_41 : decode cX11_ofCut 41 = .ok (.invokevirtual 251, 3) := by decide +kernel
theorem dX11_ofCut_44 : decode cX11_ofCut 44 = .ok (.iastore, 1) := by decide +kernel
theorem dX11_ofCut_45 : decode cX11_ofCut 45 = .ok (.iinc 1 1, 3) := by decide +kernel
theorem dX11_ofCut_48 : decode cX11_ofCut 48 = .ok (.goto (-30), 3) := by decide +kernel
theorem dX11_ofCut_51 : decode cX11_ofCut 51 = .ok (.aload_n 0, 1) := by decide +kernel
theorem dX11_ofCut_52 : decode cX11_ofCut 52 = .ok (.getfield 98, 3) := by decide +kernel
theorem dX11_ofCut_55 : decode cX11_ofCut 55 = .ok (.ireturn, 1) := by decide +kernel
set_option maxRecDepth 20000 in
theorem ggX11_of_X11_in : GoodIn wsX11_of wsX11_in := goodIn_r _ [6] (by decide +kernel) (by decide +kernel)
set_option maxRecDepth 20000 in
theorem gX11_of_X11_in : GoodIn wsX11_of (va_wsS RX11 207 yX11_in wsX11_in) := goodIn_app (goodIn_of _ (by decide +kernel)) ggX11_of_X11_in
theorem dX11_of_0 : decode cX11_of 0 = .ok (.iload_n 1, 1) := by decide +kernel
theorem dX11_of_1 : decode cX11_of 1 = .ok (.iconst 0, 1) := by decide +kernel
theorem dX11_of_2 : decode cX11_of 2 = .ok (.aload_n 0, 1) := by decide +kernel
theorem dX11_of_3 : decode cX11_of 3 = .ok (.getfield 109, 3) := by decide +kernel
theorem dX11_of_6 : decode cX11_of 6 = .ok (.iconst 1, 1) := by decide +kernel
theorem dX11_of_7 : decode cX11_of 7 = .ok (.isub, 1) := by decide +kernel
theorem dX11_of_8 : decode cX11_of 8 = .ok (.invokestatic 207, 3) := by decide +kernel
theorem dX11_of_11 : decode cX11_of 11 = .ok (.ifCond .eq 12, 3) := by decide +kernel
theorem dX11_of_14 : decode cX11_of 14 = .ok (.aload_n 0, 1) := by decide +kernel
theorem dX11_of_15 : decode cX11_of 15 = .ok (.getfield 67, 3) := by decide +kernel
theorem dX11_of_18 : decode cX11_of 18 = .ok (.iload_n 1, 1) := by decide +kernel
theorem dX11_of_19 : decode cX11_of 19 = .ok (.iaload, 1) := by decide +kernel
theorem dX11_of_20 : decode cX11_of 20 = .ok (.goto 5, 3) := by decide +kernel
theorem dX11_of_23 : decode cX11_of 23 = .ok (.bipush (-2), 2) := by decide +kernel
theorem dX11_of_25 : decode cX11_of 25 = .ok (.ireturn, 1) := by decide +kernel
theorem dX11_alongOf_0 : decode cX11_alongOf 0 = .ok (.lconst 0, 1) := by decide +kernel
theorem dX11_alongOf_1 : decode cX11_alongOf 1 = .ok (.lstore_n 3, 1) := by decide +kernel
theorem dX11_alongOf_2 : decode cX11_alongOf 2 = .ok (.lconst 1, 1) := by decide +kernel
theorem dX11_alongOf_3 : decode cX11_alongOf 3 = .ok (.lstore 5, 2) := by decide +kernel
theorem dX11_alongOf_5 : decode cX11_alongOf 5 = .ok (.iload_n 2, 1) := by decide +kernel
theorem dX11_alongOf_6 : decode cX11_alongOf 6 = .ok (.ifCond .ne 5, 3) := by decide +kernel
theorem dX11_alongOf_9 : decode cX11_alongOf 9 = .ok (.lconst 0, 1) := by decide +kernel
theorem dX11_alongOf_10 : decode cX11_alongOf 10 = .ok (.lreturn, 1) := by decide +kernel
theorem dX11_alongOf_11 : decode cX11_alongOf 11 = .ok (.iconst 1, 1) := by decide +kernel
theorem dX11_alongOf_12 : decode cX11_alongOf 12 = .ok (.istore 7, 2) := by decide +kernel
theorem dX11_alongOf_14 : decode cX11_alongOf 14 = .ok (.iload 7, 2) := by decide +kernel
theorem dX11_alongOf_16 : decode cX11_alongOf 16 = .ok (.iload_n 2, 1) := by decide +kernel
theorem dX11_alongOf_17 : decode cX11_alongOf 17 = .ok (.if_icmp .ge 38, 3) := by decide +kernel
theorem dX11_alongOf_20 : decode cX11_alongOf 20 = .ok (.aload_n 0, 1) := by decide +kernel
theorem dX11_alongOf_21 : decode cX11_alongOf 21 = .ok (.getfield 67, 3) := by decide +kernel
theorem dX11_alongOf_24 : decode cX11_alongOf 24 = .ok (.iload_n 1, 1) := by decide +kernel
theorem dX11_alongOf_25 : decode cX11_alongOf 25 = .ok (.iload 7, 2) := by decide +kernel
theorem dX11_alongOf_27 : decode cX11_alongOf 27 = .ok (.iadd, 1) := by decide +kernel
theorem dX11_alongOf_28 : decode cX11_alongOf 28 = .ok (.aload_n 0, 1) := by decide +kernel
theorem dX11_alongOf_29 : decode cX11_alongOf 29 = .ok (.getfield 109, 3) := by decide +kernel
theorem dX11_alongOf_32 : decode cX11_alongOf 32 = .ok (.irem, 1) := by decide +kernel
theorem dX11_alongOf_33 : decode cX11_alongOf 33 = .ok (.iaload, 1) := by decide +kernel
theorem dX11_alongOf_34 : decode cX11_alongOf 34 = .ok (.i2l, 1) := by decide +kernel
theorem dX11_alongOf_35 : decode cX11_alongOf 35 = .ok (.lload 5, 2) := by decide +kernel
theorem dX11_alongOf_37 : decode cX11_alongOf 37 = .ok (.lmul, 1) := by decide +kernel
theorem dX11_alongOf_38 : decode cX11_alongOf 38 = .ok (.lload_n 3, 1) := by decide +kernel
theorem dX11_alongOf_39 : decode cX11_alongOf 39 = .ok (.lsub, 1) := by decide +kernel
theorem dX11_alongOf_40 : decode cX11_alongOf 40 = .ok (.lstore 8, 2) := by decide +kernel
theorem dX11_alongOf_42 : decode cX11_alongOf 42 = .ok (.lload 5, 2) := by decide +kernel
theorem dX11_alongOf_44 : decode cX11_alongOf 44 = .ok (.lstore_n 3, 1) := by decide +kernel
theorem dX11_alongOf_45 : decode cX11_alongOf 45 = .ok (.lload 8, 2) := by decide +kernel
theorem dX11_alongOf_47 : decode cX11_alongOf 47 = .ok (.lstore 5, 2) := by decide +kernel
theorem dX11_alongOf_49 : decode cX11_alongOf 49 = .ok (.iinc 7 1, 3) := by decide +kernel
theorem dX11_alongOf_52 : decode cX11_alongOf 52 = .ok (.goto (-38), 3) := by decide +kernel
theorem dX11_alongOf_55 : decode cX11_alongOf 55 = .ok (.lload 5, 2) := by decide +kernel
theorem dX11_alongOf_57 : decode cX11_alongOf 57 = .ok (.lreturn, 1) := by decide +kernel
set_option maxRecDepth 20000 in
theorem ggX11_along_X11_in : GoodIn wsX11_along wsX11_in := goodIn_r _ [6] (by decide +kernel) (by decide +kernel)
set_option maxRecDepth 20000 in
theorem gX11_along_X11_in : GoodIn wsX11_along (va_wsS RX11 207 yX11_in wsX11_in) := goodIn_app (goodIn_of _ (by decide +kernel)) ggX11_along_X11_in
set_option maxRecDepth 20000 in
theorem ggX11_along_X11_alongOf : GoodIn wsX11_along wsX11_alongOf := goodIn_r _ [10, 11, 1, 12, 13, 14, 15, 16, 17, 18, 19, 20, 21, 22, 23, 24, 25, 26, 27, 28, 29, 30, 31, 32, 33, 34, 35, 36, 37, 38, 39, 40, 41, 42, 43, 44, 45, 46, 47, 48, 49, 50, 51, 52, 53, 54, 55, 56, 57, 58, 59, 60, 61, 62, 63, 64, 65] (by decide +kernel) (by decide +kernel)
set_option maxRecDepth 20000 in
theorem gX11_along_X11_alongOf : GoodIn wsX11_along (wsV RX11 310 RX11 yX11_alongOf wsX11_alongOf) := goodIn_app (goodIn_of _ (by decide +kernel)) ggX11_along_X11_alongOf
theorem dX11_along_0 : decode cX11_along 0 = .ok (.iload_n 1, 1) := by decide +kernel
theorem dX11_along_1 : decode cX11_along 1 = .ok (.iconst 0, 1) := by decide +kernel
theorem dX11_along_2 : decode cX11_along 2 = .ok (.aload_n 0, 1) := by decide +kernel
theorem dX11_along_3 : decode cX11_along 3 = .ok (.getfield 109, 3) := by decide +kernel
theorem dX11_along_6 : decode cX11_along 6 = .ok (.iconst 1, 1) := by decide +kernel
theorem dX11_along_7 : decode cX11_along 7 = .ok (.isub, 1) := by decide +kernel
theorem dX11_along_8 : decode cX11_along 8 = .ok (.invokestatic 207, 3) := by decide +kernel
theorem dX11_along_11 : decode cX11_along 11 = .ok (.ifCond .eq 22, 3) := by decide +kernel
theorem dX11_along_14 : decode cX11_along 14 = .ok (.iload_n 2, 1) := by decide +kernel
theorem dX11_along_15 : decode cX11_along 15 = .ok (.iconst 0, 1) := by decide +kernel
theorem dX11_along_16 : decode cX11_along 16 = .ok (.bipush 12, 2) := by decide +kernel
theorem dX11_along_18 : decode cX11_along 18 = .ok (.invokestatic 207, 3) := by decide +kernel
theorem dX11_along_21 : decode cX11_along 21 = .ok (.ifCond .eq 12, 3) := by decide +kernel
theorem dX11_along_24 : decode cX11_along 24 = .ok (.aload_n 0, 1) := by decide +kernel
theorem dX11_along_25 : decode cX11_along 25 = .ok (.iload_n 1, 1) := by decide +kernel
theorem dX11_along_26 : decode cX11_along 26 = .ok (.iload_n 2, 1) := by decide +kernel
theorem dX11_along_27 : decode cX11_along 27 = .ok (.invokevirtual 310, 3) := by decide +kernel
theorem dX11_along_30 : decode cX11_along 30 = .ok (.goto 6, 3) := by decide +kernel
theorem dX11_along_33 : decode cX11_along 33 = .ok (.ldc2_w 314, 3) := by decide +kernel
theorem dX11_along_36 : decode cX11_along 36 = .ok (.lreturn, 1) := by decide +kernel
set_option maxRecDepth 20000 in
theorem ggX11_isAll_X11_alongOf : GoodIn wsX11_isAll wsX11_alongOf := goodIn_r _ [6, 7, 1, 8, 9, 10, 11, 12, 13, 14, 15, 16, 17, 18, 19, 20, 21, 22, 23, 24, 25, 26, 27, 28, 29, 30, 31, 32, 33, 34, 35, 36, 37, 38, 39, 40, 41, 42, 43, 44, 45, 46, 47, 48, 49, 50, 51, 52, 53, 54, 55, 56, 57, 58, 59, 60, 61] (by decide +kernel) (by decide +kernel)
set_option maxRecDepth 20000 in
theorem gX11_isAll_X11_alongOf : GoodIn wsX11_isAll (wsV RX11 310 RX11 yX11_alongOf wsX11_alongOf) := goodIn_app (goodIn_of _ (by decide +kernel)) ggX11_isAll_X11_alongOf
theorem dX11_isAll_0 : decode cX11_isAll 0 = .ok (.iconst 0, 1) := by decide +kernel
theorem dX11_isAll_1 : decode cX11_isAll 1 = .ok (.istore 4, 2) := by decide +kernel
theorem dX11_isAll_3 : decode cX11_isAll 3 = .ok (.iload 4, 2) := by decide +kernel
theorem dX11_isAll_5 : decode cX11_isAll 5 = .ok (.aload_n 0, 1) := by decide +kernel
theorem dX11_isAll_6 : decode cX11_isAll 6 = .ok (.getfield 109, 3) := by decide +kernel
theorem dX11_isAll_9 : decode cX11_isAll 9 = .ok (.if_icmp .ge 23, 3) := by decide +kernel
theorem dX11_isAll_12 : decode cX11_isAll 12 = .ok (.aload_n 0, 1) := by decide +kernel
theorem dX11_isAll_13 : decode cX11_isAll 13 = .ok (.iload 4, 2) := by decide +kernel
theorem dX11_isAll_15 : decode cX11_isAll 15 = .ok (.iload_n 1, 1) := by decide +kernel
theorem dX11_isAll_16 : decode cX11_isAll 16 = .ok (.invokevirtual 310, 3) := by decide +kernel
theorem dX11_isAll_19 : decode cX11_isAll 19 = .ok (.lload_n 2, 1) := by decide +kernel
theorem dX11_isAll_20 : decode cX11_isAll 20 = .ok (.lcmp, 1) := by decide +kernel
theorem dX11_isAll_21 : decode cX11_isAll 21 = .ok (.ifCond .eq 5, 3) := by decide +kernel
theorem dX11_isAll_24 : decode cX11_isAll 24 = .ok (.iconst 0, 1) := by decide +kernel
theorem dX11_isAll_25 : decode cX11_isAll 25 = .ok (.ireturn, 1) := by decide +kernel
theorem dX11_isAll_26 : decode cX11_isAll 26 = .ok (.iinc 4 1, 3) := by decide +kernel
theorem dX11_isAll_29 : decode cX11_isAll 29 = .ok (.goto (-26), 3) := by decide +kernel
theorem dX11_isAll_32 : decode cX11_isAll 32 = .ok (.iconst 1, 1) := by decide +kernel
theorem dX11_isAll_33 : decode cX11_isAll 33 = .ok (.ireturn, 1) := by decide +kernel
set_option maxRecDepth 20000 in
theorem ggX11_breaks_X11_in : GoodIn wsX11_breaks wsX11_in := goodIn_r _ [6] (by decide +kernel) (by decide +kernel)
set_option maxRecDepth 20000 in
theorem gX11_breaks_X11_in : GoodIn wsX11_breaks (va_wsS RX11 207 yX11_in wsX11_in) := goodIn_app (goodIn_of _ (by decide +kernel)) ggX11_breaks_X11_in
set_option maxRecDepth 20000 in
theorem ggX11_breaks_X11_alongOf : GoodIn wsX11_breaks wsX11_alongOf := goodIn_r _ [10, 11, 1, 16, 17, 18, 19, 20, 21, 22, 23, 24, 25, 26, 27, 28, 29, 30, 31, 32, 33, 34, 35, 36, 37, 38, 39, 40, 41, 42, 43, 44, 45, 46, 47, 48, 49, 50, 51, 52, 53, 54, 55, 56, 57, 58, 59, 60, 61, 62, 63, 64, 65, 66, 67, 68, 69] (by decide +kernel) (by decide +kernel)
set_option maxRecDepth 20000 in
theorem gX11_breaks_X11_alongOf : GoodIn wsX11_breaks (wsV RX11 310 RX11 yX11_alongOf wsX11_alongOf) := goodIn_app (goodIn_of _ (by decide +kernel)) ggX11_breaks_X11_alongOf
set_option maxRecDepth 20000 in
theorem ggX11_breaks_X11_isAll : GoodIn wsX11_breaks wsX11_isAll := goodIn_r _ [15, 1, 7, 8, 9, 5, 10, 11, 16, 17, 18, 19, 20, 21, 22, 23, 24, 25, 26, 27, 28, 29, 30, 31, 32, 33, 34, 35, 36, 37, 38, 39, 40, 41, 42, 43, 44, 45, 46, 47, 48, 49, 50, 51, 52, 53, 54, 55, 56, 57, 58, 59, 60, 61, 62, 63, 64, 65, 66, 67, 68, 69] (by decide +kernel) (by decide +kernel)
set_option maxRecDepth 20000 in
theorem gX11_breaks_X11_isAll : GoodIn wsX11_breaks (wsV RX11 316 RX11 yX11_isAll wsX11_isAll) := goodIn_app (goodIn_of _ (by decide +kernel)) ggX11_breaks_X11_isAll
theorem dX11_breaks_0 : decode cX11_breaks 0 = .ok (.iload_n 1, 1) := by decide +kernel
theorem dX11_breaks_1 : decode cX11_breaks 1 = .ok (.iconst 0, 1) := by decide +kernel
theorem dX11_breaks_2 : decode cX11_breaks 2 = .ok (.iconst 2, 1) := by decide +kernel
theorem dX11_breaks_3 : decode cX11_breaks 3 = .ok (.invokestatic 207, 3) := by decide +kernel
theorem dX11_breaks_6 : decode cX11_breaks 6 = .ok (.ifCond .ne 5, 3) := by decide +kernel
theorem dX11_breaks_9 : decode cX11_breaks 9 = .ok (.iconst (-1), 1) := by decide +kernel
theorem dX11_breaks_10 : decode cX11_breaks 10 = .ok (.ireturn, 1) := by decide +kernel
theorem dX11_breaks_11 : decode cX11_breaks 11 = .ok (.iconst 2, 1) := by decide +kernel
theorem dX11_breaks_12 : decode cX11_breaks 12 = .ok (.istore_n 2, 1) := by decide +kernel
theorem dX11_breaks_13 : decode cX11_breaks 13 = .ok (.iload_n 2, 1) := by decide +kernel
theorem dX11_breaks_14 : decode cX11_breaks 14 = .ok (.bipush 12, 2) := by decide +kernel
theorem dX11_breaks_16 : decode cX11_breaks 16 = .ok (.if_icmp .gt 90, 3) := by decide +kernel
theorem dX11_breaks_19 : decode cX11_breaks 19 = .ok (.iconst 0, 1) := by decide +kernel
theorem dX11_breaks_20 : decode cX11_breaks 20 = .ok (.istore_n 3, 1) := by decide +kernel
theorem dX11_breaks_21 : decode cX11_breaks 21 = .ok (.iload_n 3, 1) := by decide +kernel
theorem dX11_breaks_22 : decode cX11_breaks 22 = .ok (.aload_n 0, 1) := by decide +kernel
theorem dX11_breaks_23 : decode cX11_breaks 23 = .ok (.getfield 109, 3) := by decide +kernel
theorem dX11_breaks_26 : decode cX11_breaks 26 = .ok (.if_icmp .ge 74, 3) := by decide +kernel
theorem dX11_breaks_29 : decode cX11_breaks 29 = .ok (.aload_n 0, 1) := by decide +kernel
theorem dX11_breaks_30 : decode cX11_breaks 30 = .ok (.iload_n 3, 1) := by decide +kernel
theorem dX11_breaks_31 : decode cX11_breaks 31 = .ok (.iload_n 2, 1) := by decide +kernel
theorem dX11_breaks_32 : decode cX11_breaks 32 = .ok (.invokevirtual 310, 3) := by decide +kernel
theorem dX11_breaks_35 : decode cX11_breaks 35 = .ok (.lconst 0, 1) := by decide +kernel
theorem dX11_breaks_36 : decode cX11_breaks 36 = .ok (.lcmp, 1) := by decide +kernel
theorem dX11_breaks_37 : decode cX11_breaks 37 = .ok (.ifCond .le 6, 3) := by decide +kernel
theorem dX11_breaks_40 : decode cX11_breaks 40 = .ok (.goto 54, 3) := by decide +kernel
theorem dX11_breaks_43 : decode cX11_breaks 43 = .ok (.iload_n 1, 1) := by decide +kernel
theorem dX11_breaks_44 : decode cX11_breaks 44 = .ok (.ifCond .ne 7, 3) := by decide +kernel
theorem dX11_breaks_47 : decode cX11_breaks 47 = .ok (.iload_n 2, 1) := by decide +kernel
theorem dX11_breaks_48 : decode cX11_breaks 48 = .ok (.goto 45, 3) := by decide +kernel
theorem dX11_breaks_51 : decode cX11_breaks 51 = .ok (.iload_n 1, 1) := by decide +kernel
theorem dX11_breaks_52 : decode cX11_breaks 52 = .ok (.iconst 1, 1) := by decide +kernel
theorem dX11_breaks_53 : decode cX11_breaks 53 = .ok (.if_icmp .ne 7, 3) := by decide +kernel
theorem dX11_breaks_56 : decode cX11_breaks 56 = .ok (.iload_n 3, 1) := by decide +kernel
theorem dX11_breaks_57 : decode cX11_breaks 57 = .ok (.goto 36, 3) := by decide +kernel
theorem dX11_breaks_60 : decode cX11_breaks 60 = .ok (.aload_n 0, 1) := by decide +kernel
theorem dX11_breaks_61 : decode cX11_breaks 61 = .ok (.iload_n 2, 1) := by decide +kernel
theorem dX11_breaks_62 : decode cX11_breaks 62 = .ok (.lconst 0, 1) := by decide +kernel
theorem dX11_breaks_63 : decode cX11_breaks 63 = .ok (.invokevirtual 316, 3) := by decide +kernel
theorem dX11_breaks_66 : decode cX11_breaks 66 = .ok (.ifCond .eq 26, 3) := by decide +kernel
theorem dX11_breaks_69 : decode cX11_breaks 69 = .ok (.iload_n 2, 1) := by decide +kernel
theorem dX11_breaks_70 : decode cX11_breaks 70 = .ok (.bipush 12, 2) := by decide +kernel
theorem dX11_breaks_72 : decode cX11_breaks 72 = .ok (.if_icmp .eq 16, 3) := by decide +kernel
theorem dX11_breaks_75 : decode cX11_breaks 75 = .ok (.aload_n 0, 1) := by decide +kernel
theorem dX11_breaks_76 : decode cX11_breaks 76 = .ok (.iload_n 2, 1) := by decide +kernel
theorem dX11_breaks_77 : decode cX11_breaks 77 = .ok (.iconst 1, 1) := by decide +kernel
theorem dX11_breaks_78 : decode cX11_breaks 78 = .ok (.iadd, 1) := by decide +kernel
theorem dX11_breaks_79 : decode cX11_breaks 79 = .ok (.ldc2_w 271, 3) := by decide +kernel
theorem dX11_breaks_82 : decode cX11_breaks 82 = .ok (.invokevirtual 316, 3) := by decide +kernel
theorem dX11_breaks_85 : decode cX11_breaks 85 = .ok (.ifCond .eq 7, 3) := by decide +kernel
theorem dX11_breaks_88 : decode cX11_breaks 88 = .ok (.iconst 1, 1) := by decide +kernel
theorem dX11_breaks_89 : decode cX11_breaks 89 = .ok (.goto 4, 3) := by decide +kernel
theorem dX11_breaks_92 : decode cX11_breaks 92 = .ok (.iconst 0, 1) := by decide +kernel
theorem dX11_breaks_93 : decode cX11_breaks 93 = .ok (.ireturn, 1) := by decide +kernel
theorem dX11_breaks_94 : decode cX11_breaks 94 = .ok (.iinc 3 1, 3) := by decide +kernel
theorem dX11_breaks_97 : decode cX11_breaks 97 = .ok (.goto (-76), 3) := by decide +kernel
theorem dX11_breaks_100 : decode cX11_breaks 100 = .ok (.iinc 2 1, 3) := by decide +kernel
theorem dX11_breaks_103 : decode cX11_breaks 103 = .ok (.goto (-90), 3) := by decide +kernel
theorem dX11_breaks_106 : decode cX11_breaks 106 = .ok (.iconst (-1), 1) := by decide +kernel
theorem dX11_breaks_107 : decode cX11_breaks 107 = .ok (.ireturn, 1) := by decide +kernel
set_option maxRecDepth 20000 in
theorem ggX11_growth_X11_alongOf : GoodIn wsX11_growth wsX11_alongOf := goodIn_r _ [6, 7, 1, 8, 9, 10, 11, 12, 13, 14, 15, 16, 17, 18, 19, 20, 21, 22, 23, 24, 25, 26, 27, 28, 29, 30, 31, 32, 33, 34, 35, 36, 37, 38, 39, 40, 41, 42, 43, 44, 45, 46, 47, 48, 49, 50, 51, 52, 53, 54, 55, 56, 57, 58, 59, 60, 61] (by decide +kernel) (by decide +kernel)
set_option maxRecDepth 20000 in
theorem gX11_growth_X11_alongOf : GoodIn wsX11_growth (wsV RX11 310 RX11 yX11_alongOf wsX11_alongOf) := goodIn_app (goodIn_of _ (by decide +kernel)) ggX11_growth_X11_alongOf
theorem dX11_growth_0 : decode cX11_growth 0 = .ok (.aload_n 0, 1) := by decide +kernel
theorem dX11_growth_1 : decode cX11_growth 1 = .ok (.iconst 0, 1) := by decide +kernel
theorem dX11_growth_2 : decode cX11_growth 2 = .ok (.aload_n 0, 1) := by decide +kernel
theorem dX11_growth_3 : decode cX11_growth 3 = .ok (.getfield 109, 3) := by decide +kernel
theorem dX11_growth_6 : decode cX11_growth 6 = .ok (.iconst 1, 1) := by decide +kernel
theorem dX11_growth_7 : decode cX11_growth 7 = .ok (.iadd, 1) := by decide +kernel
theorem dX11_growth_8 : decode cX11_growth 8 = .ok (.invokevirtual 310, 3) := by decide +kernel
theorem dX11_growth_11 : decode cX11_growth 11 = .ok (.aload_n 0, 1) := by decide +kernel
theorem dX11_growth_12 : decode cX11_growth 12 = .ok (.iconst 1, 1) := by decide +kernel
theorem dX11_growth_13 : decode cX11_growth 13 = .ok (.aload_n 0, 1) := by decide +kernel
theorem dX11_growth_14 : decode cX11_growth 14 = .ok (.getfield 109, 3) := by decide +kernel
theorem dX11_growth_17 : decode cX11_growth 17 = .ok (.irem, 1) := by decide +kernel
theorem dX11_growth_18 : decode cX11_growth 18 = .ok (.aload_n 0, 1) := by decide +kernel
theorem dX11_growth_19 : decode cX11_growth 19 = .ok (.getfield 109, 3) := by decide +kernel
theorem dX11_growth_22 : decode cX11_growth 22 = .ok (.iconst 1, 1) := by decide +kernel
theorem dX11_growth_23 : decode cX11_growth 23 = .ok (.isub, 1) := by decide +kernel
theorem dX11_growth_24 : decode cX11_growth 24 = .ok (.invokevirtual 310, 3) := by decide +kernel
theorem dX11_growth_27 : decode cX11_growth 27 = .ok (.lsub, 1) := by decide +kernel
theorem dX11_growth_28 : decode cX11_growth 28 = .ok (.lreturn, 1) := by decide +kernel
set_option maxRecDepth 20000 in
theorem ggX11_glue_X11_in : GoodIn wsX11_glue wsX11_in := goodIn_r _ [6] (by decide +kernel) (by decide +kernel)
set_option maxRecDepth 20000 in
theorem gX11_glue_X11_in : GoodIn wsX11_glue (va_wsS RX11 207 yX11_in wsX11_in) := goodIn_app (goodIn_of _ (by decide +kernel)) ggX11_glue_X11_in
theorem dX11_glue_0 : decode cX11_glue 0 = .ok (.iload_n 1, 1) := by decide +kernel
theorem dX11_glue_1 : decode cX11_glue 1 = .ok (.iconst 0, 1) := by decide +kernel
theorem dX11_glue_2 : decode cX11_glue 2 = .ok (.aload_n 0, 1) := by decide +kernel
theorem dX11_glue_3 : decode cX11_glue 3 = .ok (.getfield 109, 3) := by decide +kernel
theorem dX11_glue_6 : decode cX11_glue 6 = .ok (.iconst 1, 1) := by decide +kernel
theorem dX11_glue_7 : decode cX11_glue 7 = .ok (.isub, 1) := by decide +kernel
theorem dX11_glue_8 : decode cX11_glue 8 = .ok (.invokestatic 207, 3) := by decide +kernel
theorem dX11_glue_11 : decode cX11_glue 11 = .ok (.ifCond .ne 6, 3) := by decide +kernel
theorem dX11_glue_14 : decode cX11_glue 14 = .ok (.bipush (-2), 2) := by decide +kernel
theorem dX11_glue_16 : decode cX11_glue 16 = .ok (.ireturn, 1) := by decide +kernel
theorem dX11_glue_17 : decode cX11_glue 17 = .ok (.aload_n 0, 1) := by decide +kernel
theorem dX11_glue_18 : decode cX11_glue 18 = .ok (.getfield 109, 3) := by decide +kernel
theorem dX11_glue_21 : decode cX11_glue 21 = .ok (.bipush 10, 2) := by decide +kernel
theorem dX11_glue_23 : decode cX11_glue 23 = .ok (.if_icmp .ne 6, 3) := by decide +kernel
theorem dX11_glue_26 : decode cX11_glue 26 = .ok (.bipush (-3), 2) := by decide +kernel
theorem dX11_glue_28 : decode cX11_glue 28 = .ok (.ireturn, 1) := by decide +kernel
theorem dX11_glue_29 : decode cX11_glue 29 = .ok (.iload_n 1, 1) := by decide +kernel
theorem dX11_glue_30 : decode cX11_glue 30 = .ok (.iconst 1, 1) := by decide +kernel
theorem dX11_glue_31 : decode cX11_glue 31 = .ok (.iadd, 1) := by decide +kernel
theorem dX11_glue_32 : decode cX11_glue 32 = .ok (.aload_n 0, 1) := by decide +kernel
theorem dX11_glue_33 : decode cX11_glue 33 = .ok (.getfield 109, 3) := by decide +kernel
theorem dX11_glue_36 : decode cX11_glue 36 = .ok (.irem, 1) := by decide +kernel
theorem dX11_glue_37 : decode cX11_glue 37 = .ok (.istore_n 2, 1) := by decide +kernel
theorem dX11_glue_38 : decode cX11_glue 38 = .ok (.aload_n 0, 1) := by decide +kernel
theorem dX11_glue_39 : decode cX11_glue 39 = .ok (.getfield 109, 3) := by decide +kernel
theorem dX11_glue_42 : decode cX11_glue 42 = .ok (.iconst 1, 1) := by decide +kernel
theorem dX11_glue_43 : decode cX11_glue 43 = .ok (.if_icmp .ne 17, 3) := by decide +kernel
theorem dX11_glue_46 : decode cX11_glue 46 = .ok (.aload_n 0, 1) := by decide +kernel
theorem dX11_glue_47 : decode cX11_glue 47 = .ok (.getfield 67, 3) := by decide +kernel
theorem dX11_glue_50 : decode cX11_glue 50 = .ok (.iconst 0, 1) := by decide +kernel
theorem dX11_glue_51 : decode cX11_glue 51 = .ok (.iaload, 1) := by decide +kernel
theorem dX11_glue_52 : decode cX11_glue 52 = .ok (.bipush 18, 2) := by decide +kernel
theorem dX11_glue_54 : decode cX11_glue 54 = .ok (.if_icmp .le 31, 3) := by decide +kernel
theorem dX11_glue_57 : decode cX11_glue 57 = .ok (.goto 25, 3) := by decide +kernel
theorem dX11_glue_60 : decode cX11_glue 60 = .ok (.aload_n 0, 1) := by decide +kernel
theorem dX11_glue_61 : decode cX11_glue 61 = .ok (.getfield 67, 3) := by decide +kernel
theorem dX11_glue_64 : decode cX11_glue 64 = .ok (.iload_n 1, 1) := by decide +kernel
theorem dX11_glue_65 : decode cX11_glue 65 = .ok (.iaload, 1) := by decide +kernel
theorem dX11_glue_66 : decode cX11_glue 66 = .ok (.bipush 19, 2) := by decide +kernel
theorem dX11_glue_68 : decode cX11_glue 68 = .ok (.if_icmp .gt 14, 3) := by decide +kernel
theorem dX11_glue_71 : decode cX11_glue 71 = .ok (.aload_n 0, 1) := by decide +kernel
theorem dX11_glue_72 : decode cX11_glue 72 = .ok (.getfield 67, 3) := by decide +kernel
theorem dX11_glue_75 : decode cX11_glue 75 = .ok (.iload_n 2, 1) := by decide +kernel
theorem dX11_glue_76 : decode cX11_glue 76 = .ok (.iaload, 1) := by decide +kernel
theorem dX11_glue_77 : decode cX11_glue 77 = .ok (.bipush 19, 2) := by decide +kernel
theorem dX11_glue_79 : decode cX11_glue 79 = .ok (.if_icmp .le 6, 3) := by decide +kernel
theorem dX11_glue_82 : decode cX11_glue 82 = .ok (.bipush (-3), 2) := by decide +kernel
theorem dX11_glue_84 : decode cX11_glue 84 = .ok (.ireturn, 1) := by decide +kernel
theorem dX11_glue_85 : decode cX11_glue 85 = .ok (.aload_n 0, 1) := by decide +kernel
theorem dX11_glue_86 : decode cX11_glue 86 = .ok (.getfield 67, 3) := by decide +kernel
theorem dX11_glue_89 : decode cX11_glue 89 = .ok (.iload_n 1, 1) := by decide +kernel
theorem dX11_glue_90 : decode cX11_glue 90 = .ok (.dup2, 1) := by decide +kernel
theorem dX11_glue_91 : decode cX11_glue 91 = .ok (.iaload, 1) := by decide +kernel
theorem dX11_glue_92 : decode cX11_glue 92 = .ok (.iconst 1, 1) := by decide +kernel
theorem dX11_glue_93 : decode cX11_glue 93 = .ok (.iadd, 1) := by decide +kernel
theorem dX11_glue_94 : decode cX11_glue 94 = .ok (.iastore, 1) := by decide +kernel
theorem dX11_glue_95 : decode cX11_glue 95 = .ok (.aload_n 0, 1) := by decide +kernel
theorem dX11_glue_96 : decode cX11_glue 96 = .ok (.getfield 67, 3) := by decide +kernel
theorem dX11_glue_99 : decode cX11_glue 99 = .ok (.iload_n 2, 1) := by decide +kernel
theorem dX11_glue_100 : decode cX11_glue 100 = .ok (.dup2, 1) := by decide +kernel
theorem dX11_glue_101 : decode cX11_glue 101 = .ok (.iaload, 1) := by decide +kernel
theorem dX11_glue_102 : decode cX11_glue 102 = .ok (.iconst 1, 1) := by decide +kernel
theorem dX11_glue_103 : decode cX11_glue 103 = .ok (.iadd, 1) := by decide +kernel
theorem dX11_glue_104 : decode cX11_glue 104 = .ok (.iastore, 1) := by decide +kernel
theorem dX11_glue_105 : decode cX11_glue 105 = .ok (.aload_n 0, 1) := by decide +kernel
theorem dX11_glue_106 : decode cX11_glue 106 = .ok (.getfield 109, 3) := by decide +kernel
theorem dX11_glue_109 : decode cX11_glue 109 = .ok (.istore_n 3, 1) := by decide +kernel
theorem dX11_glue_110 : decode cX11_glue 110 = .ok (.iload_n 3, 1) := by decide +kernel
theorem dX11_glue_111 : decode cX11_glue 111 = .ok (.iload_n 1, 1) := by decide +kernel
theorem dX11_glue_112 : decode cX11_glue 112 = .ok (.iconst 1, 1) := by decide +kernel
theorem dX11_glue_113 : decode cX11_glue 113 = .ok (.iadd, 1) := by decide +kernel
theorem dX11_glue_114 : decode cX11_glue 114 = .ok (.if_icmp .le 23, 3) := by decide +kernel
theorem dX11_glue_117 : decode cX11_glue 117 = .ok (.aload_n 0, 1) := by decide +kernel
theorem dX11_glue_118 : decode cX11_glue 118 = .ok (.getfield 67, 3) := by decide +kernel
theorem dX11_glue_121 : decode cX11_glue 121 = .ok (.iload_n 3, 1) := by decide +kernel
theorem dX11_glue_122 : decode cX11_glue 122 = .ok (.aload_n 0, 1) := by decide +kernel
theorem dX11_glue_123 : decode cX11_glue 123 = .ok (.getfield 67, 3) := by decide +kernel
theorem dX11_glue_126 : decode cX11_glue 126 = .ok (.iload_n 3, 1) := by decide +kernel
theorem dX11_glue_127 : decode cX11_glue 127 = .ok (.iconst 1, 1) := by decide +kernel
theorem dX11_glue_128 : decode cX11_glue 128 = .ok (.isub, 1) := by decide +kernel
theorem dX11_glue_129 : decode cX11_glue 129 = .ok (.iaload, 1) := by decide +kernel
theorem dX11_glue_130 : decode cX11_glue 130 = .ok (.iastore, 1) := by decide +kernel
theorem dX11_glue_131 : decode cX11_glue 131 = .ok (.iinc 3 (-1), 3) := by decide +kernel
theorem dX11_glue_134 : decode cX11_glue 134 = .ok (.goto (-24), 3) := by decide +kernel
theorem dX11_glue_137 : decode cX11_glue 137 = .ok (.aload_n 0, 1) := by decide +kernel
theorem dX11_glue_138 : decode cX11_glue 138 = .ok (.getfield 67, 3) := by decide +kernel
theorem dX11_glue_141 : decode cX11_glue 141 = .ok (.iload_n 1, 1) := by decide +kernel
theorem dX11_glue_142 : decode cX11_glue 142 = .ok (.iconst 1, 1) := by decide +kernel
theorem dX11_glue_143 : decode cX11_glue 143 = .ok (.iadd, 1) := by decide +kernel
theorem dX11_glue_144 : decode cX11_glue 144 = .ok (.iconst 1, 1) := by decide +kernel
theorem dX11_glue_145 : decode cX11_glue 145 = .ok (.iastore, 1) := by decide +kernel
theorem dX11_glue_146 : decode cX11_glue 146 = .ok (.aload_n 0, 1) := by decide +kernel
theorem dX11_glue_147 : decode cX11_glue 147 = .ok (.dup, 1) := by decide +kernel
theorem dX11_glue_148 : decode cX11_glue 148 = .ok (.getfield 109, 3) := by decide +kernel
theorem dX11_glue_151 : decode cX11_glue 151 = .ok (.iconst 1, 1) := by decide +kernel
theorem dX11_glue_152 : decode cX11_glue 152 = .ok (.iadd, 1) := by decide +kernel
theorem dX11_glue_153 : decode cX11_glue 153 = .ok (.putfield 109, 3) := by decide +kernel
theorem dX11_glue_156 : decode cX11_glue 156 = .ok (.aload_n 0, 1) := by decide +kernel
theorem dX11_glue_157 : decode cX11_glue 157 = .ok (.getfield 109, 3) := by decide +kernel
theorem dX11_glue_160 : decode cX11_glue 160 = .ok (.ireturn, 1) := by decide +kernel
theorem dX11_isOff_0 : decode cX11_isOff 0 = .ok (.aload_n 0, 1) := by decide +kernel
theorem dX11_isOff_1 : decode cX11_isOff 1 = .ok (.getfield 109, 3) := by decide +kernel
theorem dX11_isOff_4 : decode cX11_isOff 4 = .ok (.istore_n 2, 1) := by decide +kernel
theorem dX11_isOff_5 : decode cX11_isOff 5 = .ok (.iload_n 2, 1) := by decide +kernel
theorem dX11_isOff_6 : decode cX11_isOff 6 = .ok (.iconst 2, 1) := by decide +kernel
theorem dX11_isOff_7 : decode cX11_isOff 7 = .ok (.if_icmp .le 47, 3) := by decide +kernel
theorem dX11_isOff_10 : decode cX11_isOff 10 = .ok (.aload_n 0, 1) := by decide +kernel
theorem dX11_isOff_11 : decode cX11_isOff 11 = .ok (.getfield 67, 3) := by decide +kernel
theorem dX11_isOff_14 : decode cX11_isOff 14 = .ok (.iload_n 1, 1) := by decide +kernel
theorem dX11_isOff_15 : decode cX11_isOff 15 = .ok (.iaload, 1) := by decide +kernel
theorem dX11_isOff_16 : decode cX11_isOff 16 = .ok (.iconst 1, 1) := by decide +kernel
theorem dX11_isOff_17 : decode cX11_isOff 17 = .ok (.if_icmp .ne 37, 3) := by decide +kernel
theorem dX11_isOff_20 : decode cX11_isOff 20 = .ok (.aload_n 0, 1) := by decide +kernel
theorem dX11_isOff_21 : decode cX11_isOff 21 = .ok (.getfield 67, 3) := by decide +kernel
theorem dX11_isOff_24 : decode cX11_isOff 24 = .ok (.iload_n 1, 1) := by decide +kernel
theorem dX11_isOff_25 : decode cX11_isOff 25 = .ok (.iconst 1, 1) := by decide +kernel
theorem dX11_isOff_26 : decode cX11_isOff 26 = .ok (.iadd, 1) := by decide +kernel
theorem dX11_isOff_27 : decode cX11_isOff 27 = .ok (.iload_n 2, 1) := by decide +kernel
theorem dX11_isOff_28 : decode cX11_isOff 28 = .ok (.irem, 1) := by decide +kernel
theorem dX11_isOff_29 : decode cX11_isOff 29 = .ok (.iaload, 1) := by decide +kernel
theorem dX11_isOff_30 : decode cX11_isOff 30 = .ok (.iconst 1, 1) := by decide +kernel
theorem dX11_isOff_31 : decode cX11_isOff 31 = .ok (.if_icmp .le 23, 3) := by decide +kernel
theorem dX11_isOff_34 : decode cX11_isOff 34 = .ok (.aload_n 0, 1) := by decide +kernel
theorem dX11_isOff_35 : decode cX11_isOff 35 = .ok (.getfield 67, 3) := by decide +kernel
theorem dX11_isOff_38 : decode cX11_isOff 38 = .ok (.iload_n 1, 1) := by decide +kernel
theorem dX11_isOff_39 : decode cX11_isOff 39 = .ok (.iload_n 2, 1) := by decide +kernel
theorem dX11_isOff_40 : decode cX11_isOff 40 = .ok (.iadd, 1) := by decide +kernel
theorem dX11_isOff_41 : decode cX11_isOff 41 = .ok (.iconst 1, 1) := by decide +kernel
theorem dX11_isOff_42 : decode cX11_isOff 42 = .ok (.isub, 1) := by decide +kernel
theorem dX11_isOff_43 : decode cX11_isOff 43 = .ok (.iload_n 2, 1) := by decide +kernel
theorem dX11_isOff_44 : decode cX11_isOff 44 = .ok (.irem, 1) := by decide +kernel
theorem dX11_isOff_45 : decode cX11_isOff 45 = .ok (.iaload, 1) := by decide +kernel
theorem dX11_isOff_46 : decode cX11_isOff 46 = .ok (.iconst 1, 1) := by decide +kernel
theorem dX11_isOff_47 : decode cX11_isOff 47 = .ok (.if_icmp .le 7, 3) := by decide +kernel
theorem dX11_isOff_50 : decode cX11_isOff 50 = .ok (.iconst 1, 1) := by decide +kernel
theorem dX11_isOff_51 : decode cX11_isOff 51 = .ok (.goto 4, 3) := by decide +kernel
theorem dX11_isOff_54 : decode cX11_isOff 54 = .ok (.iconst 0, 1) := by decide +kernel
theorem dX11_isOff_55 : decode cX11_isOff 55 = .ok (.ireturn, 1) := by decide +kernel
theorem dX11_off_0 : decode cX11_off 0 = .ok (.aload_n 0, 1) := by decide +kernel
theorem dX11_off_1 : decode cX11_off 1 = .ok (.getfield 109, 3) := by decide +kernel
theorem dX11_off_4 : decode cX11_off 4 = .ok (.istore_n 2, 1) := by decide +kernel
theorem dX11_off_5 : decode cX11_off 5 = .ok (.aload_n 0, 1) := by decide +kernel
theorem dX11_off_6 : decode cX11_off 6 = .ok (.getfield 67, 3) := by decide +kernel
theorem dX11_off_9 : decode cX11_off 9 = .ok (.iload_n 1, 1) := by decide +kernel
theorem dX11_off_10 : decode cX11_off 10 = .ok (.iconst 1, 1) := by decide +kernel
theorem dX11_off_11 : decode cX11_off 11 = .ok (.iadd, 1) := by decide +kernel
theorem dX11_off_12 : decode cX11_off 12 = .ok (.iload_n 2, 1) := by decide +kernel
theorem dX11_off_13 : decode cX11_off 13 = .ok (.irem, 1) := by decide +kernel
theorem dX11_off_14 : decode cX11_off 14 = .ok (.dup2, 1) := by decide +kernel
theorem dX11_off_15 : decode cX11_off 15 = .ok (.iaload, 1) := by decide +kernel
theorem dX11_off_16 : decode cX11_off 16 = .ok (.iconst 1, 1) := by decide +kernel
theorem dX11_off_17 : decode cX11_off 17 = .ok (.isub, 1) := by decide +kernel
theorem dX11_off_18 : decode cX11_off 18 = .ok (.iastore, 1) := by decide +kernel
theorem dX11_off_19 : decode cX11_off 19 = .ok (.aload_n 0, 1) := by decide +kernel
theorem dX11_off_20 : decode cX11_off 20 = .ok (.getfield 67, 3) := by decide +kernel
theorem dX11_off_23 : decode cX11_off 23 = .ok (.iload_n 1, 1) := by decide +kernel
theorem dX11_off_24 : decode cX11_off 24 = .ok (.iload_n 2, 1) := by decide +kernel
theorem dX11_off_25 : decode cX11_off 25 = .ok (.iadd, 1) := by decide +kernel
theorem dX11_off_26 : decode cX11_off 26 = .ok (.iconst 1, 1) := by decide +kernel
theorem dX11_off_27 : decode cX11_off 27 = .ok (.isub, 1) := by decide +kernel
theorem dX11_off_28 : decode cX11_off 28 = .ok (.iload_n 2, 1) := by decide +kernel
theorem dX11_off_29 : decode cX11_off 29 = .ok (.irem, 1) := by decide +kernel
theorem dX11_off_30 : decode cX11_off 30 = .ok (.dup2, 1) := by decide +kernel
theorem dX11_off_31 : decode cX11_off 31 = .ok (.iaload, 1) := by decide +kernel
theorem dX11_off_32 : decode cX11_off 32 = .ok (.iconst 1, 1) := by decide +kernel
theorem dX11_off_33 : decode cX11_off 33 = .ok (.isub, 1) := by decide +kernel
theorem dX11_off_34 : decode cX11_off 34 = .ok (.iastore, 1) := by decide +kernel
theorem dX11_off_35 : decode cX11_off 35 = .ok (.iload_n 1, 1) := by decide +kernel
theorem dX11_off_36 : decode cX11_off 36 = .ok (.istore_n 3, 1) := by decide +kernel
theorem dX11_off_37 : decode cX11_off 37 = .ok (.iload_n 3, 1) := by decide +kernel
theorem dX11_off_38 : decode cX11_off 38 = .ok (.iconst 1, 1) := by decide +kernel
theorem dX11_off_39 : decode cX11_off 39 = .ok (.iadd, 1) := by decide +kernel
theorem dX11_off_40 : decode cX11_off 40 = .ok (.iload_n 2, 1) := by decide +kernel
theorem dX11_off_41 : decode cX11_off 41 = .ok (.if_icmp .ge 23, 3) := by decide +kernel
theorem dX11_off_44 : decode cX11_off 44 = .ok (.aload_n 0, 1) := by decide +kernel
theorem dX11_off_45 : decode cX11_off 45 = .ok (.getfield 67, 3) := by decide +kernel
theorem dX11_off_48 : decode cX11_off 48 = .ok (.iload_n 3, 1) := by decide +kernel
theorem dX11_off_49 : decode cX11_off 49 = .ok (.aload_n 0, 1) := by decide +kernel
theorem dX11_off_50 : decode cX11_off 50 = .ok (.getfield 67, 3) := by decide +kernel
theorem dX11_off_53 : decode cX11_off 53 = .ok (.iload_n 3, 1) := by decide +kernel
theorem dX11_off_54 : decode cX11_off 54 = .ok (.iconst 1, 1) := by decide +kernel
theorem dX11_off_55 : decode cX11_off 55 = .ok (.iadd, 1) := by decide +kernel
theorem dX11_off_56 : decode cX11_off 56 = .ok (.iaload, 1) := by decide +kernel
theorem dX11_off_57 : decode cX11_off 57 = .ok (.iastore, 1) := by decide +kernel
theorem dX11_off_58 : decode cX11_off 58 = .ok (.iinc 3 1, 3) := by decide +kernel
theorem dX11_off_61 : decode cX11_off 61 = .ok (.goto (-24), 3) := by decide +kernel
theorem dX11_off_64 : decode cX11_off 64 = .ok (.aload_n 0, 1) := by decide +kernel
theorem dX11_off_65 : decode cX11_off 65 = .ok (.dup, 1) := by decide +kernel
theorem dX11_off_66 : decode cX11_off 66 = .ok (.getfield 109, 3) := by decide +kernel
theorem dX11_off_69 : decode cX11_off 69 = .ok (.iconst 1, 1) := by decide +kernel
theorem dX11_off_70 : decode cX11_off 70 = .ok (.isub, 1) := by decide +kernel
theorem dX11_off_71 : decode cX11_off 71 = .ok (.putfield 109, 3) := by decide +kernel
theorem dX11_off_74 : decode cX11_off 74 = .ok (.return_, 1) := by decide +kernel
set_option maxRecDepth 20000 in
theorem ggX11_cutOff_X11_in : GoodIn wsX11_cutOff wsX11_in := goodIn_r _ [5] (by decide +kernel) (by decide +kernel)
set_option maxRecDepth 20000 in
theorem gX11_cutOff_X11_in : GoodIn wsX11_cutOff (va_wsS RX11 207 yX11_in wsX11_in) := goodIn_app (goodIn_of _ (by decide +kernel)) ggX11_cutOff_X11_in
set_option maxRecDepth 20000 in
theorem ggX11_cutOff_X11_isOff : GoodIn wsX11_cutOff wsX11_isOff := goodIn_r _ [9, 1, 10, 15, 16, 17, 18, 19, 20, 21, 22, 23, 24, 25, 26, 27, 28, 29, 30, 31, 32, 33, 34, 35, 36, 37, 38, 39, 40, 41, 42, 43, 44, 45, 46, 47, 48, 49, 50, 51, 52, 53, 54, 55, 56, 57, 58, 59, 60, 61, 62, 63, 64, 65, 66, 67, 68] (by decide +kernel) (by decide +kernel)
set_option maxRecDepth 20000 in
theorem gX11_cutOff_X11_isOff : GoodIn wsX11_cutOff (wsV RX11 320 RX11 yX11_isOff wsX11_isOff) := goodIn_app (goodIn_of _ (by decide +kernel)) ggX11_cutOff_X11_isOff
set_option maxRecDepth 20000 in
theorem ggX11_cutOff_X11_off : GoodIn wsX11_cutOff wsX11_off := goodIn_r _ [14, 1, 10, 15, 16, 17, 18, 19, 20, 21, 22, 23, 24, 25, 26, 27, 28, 29, 30, 31, 32, 33, 34, 35, 36, 37, 38, 39, 40, 41, 42, 43, 44, 45, 46, 47, 48, 49, 50, 51, 52, 53, 54, 55, 56, 57, 58, 59, 60, 61, 62, 63, 64, 65, 66, 67, 68] (by decide +kernel) (by decide +kernel)
set_option maxRecDepth 20000 in
theorem gX11_cutOff_X11_off : GoodIn wsX11_cutOff (wsV RX11 323 RX11 yX11_off wsX11_off) := goodIn_app (goodIn_of _ (by decide +kernel)) ggX11_cutOff_X11_off
theorem dX11_cutOff_0 : decode cX11_cutOff 0 = .ok (.iload_n 1, 1) := by decide +kernel
theorem dX11_cutOff_1 : decode cX11_cutOff 1 = .ok (.iconst 0, 1) := by decide +kernel
theorem dX11_cutOff_2 : decode cX11_cutOff 2 = .ok (.aload_n 0, 1) := by decide +kernel
theorem dX11_cutOff_3 : decode cX11_cutOff 3 = .ok (.getfield 109, 3) := by decide +kernel
theorem dX11_cutOff_6 : decode cX11_cutOff 6 = .ok (.iconst 1, 1) := by decide +kernel
theorem dX11_cutOff_7 : decode cX11_cutOff 7 = .ok (.isub, 1) := by decide +kernel
theorem dX11_cutOff_8 : decode cX11_cutOff 8 = .ok (.invokestatic 207, 3) := by decide +kernel
theorem dX11_cutOff_11 : decode cX11_cutOff 11 = .ok (.ifCond .ne 6, 3) := by decide +kernel
theorem dX11_cutOff_14 : decode cX11_cutOff 14 = .ok (.bipush (-2), 2) := by decide +kernel
theorem dX11_cutOff_16 : decode cX11_cutOff 16 = .ok (.ireturn, 1) := by decide +kernel
theorem dX11_cutOff_17 : decode cX11_cutOff 17 = .ok (.aload_n 0, 1) := by decide +kernel
theorem dX11_cutOff_18 : decode cX11_cutOff 18 = .ok (.iload_n 1, 1) := by decide +kernel
theorem dX11_cutOff_19 : decode cX11_cutOff 19 = .ok (.invokevirtual 320, 3) := by decide +kernel
theorem dX11_cutOff_22 : decode cX11_cutOff 22 = .ok (.ifCond .ne 6, 3) := by decide +kernel
theorem dX11_cutOff_25 : decode cX11_cutOff 25 = .ok (.bipush (-4), 2) := by decide +kernel
theorem dX11_cutOff_27 : decode cX11_cutOff 27 = .ok (.ireturn, 1) := by decide +kernel
theorem dX11_cutOff_28 : decode cX11_cutOff 28 = .ok (.aload_n 0, 1) := by decide +kernel
theorem dX11_cutOff_29 : decode cX11_cutOff 29 = .ok (.iload_n 1, 1) := by decide +kernel
theorem dX11_cutOff_30 : decode cX11_cutOff 30 = .ok (.invokevirtual 323, 3) := by decide +kernel
theorem dX11_cutOff_33 : decode cX11_cutOff 33 = .ok (.aload_n 0, 1) := by decide +kernel
theorem dX11_cutOff_34 : decode cX11_cutOff 34 = .ok (.getfield 109, 3) := by decide +kernel
theorem dX11_cutOff_37 : decode cX11_cutOff 37 = .ok (.ireturn, 1) := by decide +kernel
set_option maxRecDepth 20000 in
theorem ggX11_core_X11_isOff : GoodIn wsX11_core wsX11_isOff := goodIn_r _ [7, 1, 2, 12, 13, 14, 15, 16, 17, 18, 19, 20, 21, 22, 23, 24, 25, 26, 27, 28, 29, 30, 31, 32, 33, 34, 35, 36, 37, 38, 39, 40, 41, 42, 43, 44, 45, 46, 47, 48, 49, 50, 51, 52, 53, 54, 55, 56, 57, 58, 59, 60, 61, 62, 63, 64, 65] (by decide +kernel) (by decide +kernel)
set_option maxRecDepth 20000 in
theorem gX11_core_X11_isOff : GoodIn wsX11_core (wsV RX11 320 RX11 yX11_isOff wsX11_isOff) := goodIn_app (goodIn_of _ (by decide +kernel)) ggX11_core_X11_isOff
set_option maxRecDepth 20000 in
theorem ggX11_core_X11_off : GoodIn wsX11_core wsX11_off := goodIn_r _ [11, 1, 2, 12, 13, 14, 15, 16, 17, 18, 19, 20, 21, 22, 23, 24, 25, 26, 27, 28, 29, 30, 31, 32, 33, 34, 35, 36, 37, 38, 39, 40, 41, 42, 43, 44, 45, 46, 47, 48, 49, 50, 51, 52, 53, 54, 55, 56, 57, 58, 59, 60, 61, 62, 63, 64, 65] (by decide +kernel) (by decide +kernel)
set_option maxRecDepth 20000 in
theorem gX11_core_X11_off : GoodIn wsX11_core (wsV RX11 323 RX11 yX11_off wsX11_off) := goodIn_app (goodIn_of _ (by decide +kernel)) ggX11_core_X11_off
theorem dX11_core_0 : decode cX11_core 0 = .ok (.iconst 0, 1) := by decide +kernel
theorem dX11_core_1 : decode cX11_core 1 = .ok (.istore_n 1, 1) := by decide +kernel
theorem dX11_core_2 : decode cX11_core 2 = .ok (.iconst 0, 1) := by decide +kernel
theorem dX11_core_3 : decode cX11_core 3 = .ok (.istore_n 2, 1) := by decide +kernel
theorem dX11_core_4 : decode cX11_core 4 = .ok (.iload_n 2, 1) := by decide +kernel
theorem dX11_core_5 : decode cX11_core 5 = .ok (.aload_n 0, 1) := by decide +kernel
theorem dX11_core_6 : decode cX11_core 6 = .ok (.getfield 109, 3) := by decide +kernel
theorem dX11_core_9 : decode cX11_core 9 = .ok (.if_icmp .ge 19, 3) := by decide +kernel
theorem dX11_core_12 : decode cX11_core 12 = .ok (.aload_n 0, 1) := by decide +kernel
theorem dX11_core_13 : decode cX11_core 13 = .ok (.getfield 67, 3) := by decide +kernel
theorem dX11_core_16 : decode cX11_core 16 = .ok (.iload_n 2, 1) := by decide +kernel
theorem dX11_core_17 : decode cX11_core 17 = .ok (.iaload, 1) := by decide +kernel
theorem dX11_core_18 : decode cX11_core 18 = .ok (.iconst 1, 1) := by decide +kernel
theorem dX11_core_19 : decode cX11_core 19 = .ok (.if_icmp .eq 9, 3) := by decide +kernel
theorem dX11_core_22 : decode cX11_core 22 = .ok (.iinc 2 1, 3) := by decide +kernel
theorem dX11_core_25 : decode cX11_core 25 = .ok (.goto (-21), 3) := by decide +kernel
theorem dX11_core_28 : decode cX11_core 28 = .ok (.iload_n 2, 1) := by decide +kernel
theorem dX11_core_29 : decode cX11_core 29 = .ok (.aload_n 0, 1) := by decide +kernel
theorem dX11_core_30 : decode cX11_core 30 = .ok (.getfield 109, 3) := by decide +kernel
theorem dX11_core_33 : decode cX11_core 33 = .ok (.if_icmp .eq 11, 3) := by decide +kernel
theorem dX11_core_36 : decode cX11_core 36 = .ok (.aload_n 0, 1) := by decide +kernel
theorem dX11_core_37 : decode cX11_core 37 = .ok (.iload_n 2, 1) := by decide +kernel
theorem dX11_core_38 : decode cX11_core 38 = .ok (.invokevirtual 320, 3) := by decide +kernel
theorem dX11_core_41 : decode cX11_core 41 = .ok (.ifCond .ne 5, 3) := by decide +kernel
theorem dX11_core_44 : decode cX11_core 44 = .ok (.iload_n 1, 1) := by decide +kernel
theorem dX11_core_45 : decode cX11_core 45 = .ok (.ireturn, 1) := by decide +kernel
theorem dX11_core_46 : decode cX11_core 46 = .ok (.aload_n 0, 1) := by decide +kernel
theorem dX11_core_47 : decode cX11_core 47 = .ok (.iload_n 2, 1) := by decide +kernel
theorem dX11_core_48 : decode cX11_core 48 = .ok (.invokevirtual 323, 3) := by decide +kernel
theorem dX11_core_51 : decode cX11_core 51 = .ok (.iinc 1 1, 3) := by decide +kernel
theorem dX11_core_54 : decode cX11_core 54 = .ok (.goto (-52), 3) := by decide +kernel
set_option maxRecDepth 20000 in
theorem ggX11_see_X11_in : GoodIn wsX11_see wsX11_in := goodIn_r _ [10] (by decide +kernel) (by decide +kernel)
set_option maxRecDepth 20000 in
theorem gX11_see_X11_in : GoodIn wsX11_see (va_wsS RX11 207 yX11_in wsX11_in) := goodIn_app (goodIn_of _ (by decide +kernel)) ggX11_see_X11_in
set_option maxRecDepth 20000 in
theorem ggX11_see_X11_isCorner : GoodIn wsX11_see wsX11_isCorner := goodIn_r _ [14, 15, 7, 8, 9, 10, 16, 17, 18, 19, 20, 21, 22, 23, 24, 25, 26, 27, 28, 29, 30, 31, 32, 33, 34, 35, 36, 37, 38, 39, 40, 41, 42, 43, 44, 45, 46, 47, 48, 49, 50, 51, 52, 53, 54, 55, 56, 57, 58, 59, 60, 61, 62, 63, 64, 65, 66, 67, 68, 69] (by decide +kernel) (by decide +kernel)
set_option maxRecDepth 20000 in
theorem gX11_see_X11_isCorner : GoodIn wsX11_see (wsV RX11 244 RX11 yX11_isCorner wsX11_isCorner) := goodIn_app (goodIn_of _ (by decide +kernel)) ggX11_see_X11_isCorner
theorem dX11_see_0 : decode cX11_see 0 = .ok (.iload_n 1, 1) := by decide +kernel
theorem dX11_see_1 : decode cX11_see 1 = .ok (.aload_n 0, 1) := by decide +kernel
theorem dX11_see_2 : decode cX11_see 2 = .ok (.getfield 198, 3) := by decide +kernel
theorem dX11_see_5 : decode cX11_see 5 = .ok (.sipush 999, 3) := by decide +kernel
theorem dX11_see_8 : decode cX11_see 8 = .ok (.invokestatic 207, 3) := by decide +kernel
theorem dX11_see_11 : decode cX11_see 11 = .ok (.ifCond .eq 36, 3) := by decide +kernel
theorem dX11_see_14 : decode cX11_see 14 = .ok (.aload_n 0, 1) := by decide +kernel
theorem dX11_see_15 : decode cX11_see 15 = .ok (.iload_n 2, 1) := by decide +kernel
theorem dX11_see_16 : decode cX11_see 16 = .ok (.invokevirtual 244, 3) := by decide +kernel
theorem dX11_see_19 : decode cX11_see 19 = .ok (.ifCond .eq 28, 3) := by decide +kernel
theorem dX11_see_22 : decode cX11_see 22 = .ok (.aload_n 0, 1) := by decide +kernel
theorem dX11_see_23 : decode cX11_see 23 = .ok (.iload_n 3, 1) := by decide +kernel
theorem dX11_see_24 : decode cX11_see 24 = .ok (.invokevirtual 244, 3) := by decide +kernel
theorem dX11_see_27 : decode cX11_see 27 = .ok (.ifCond .eq 20, 3) := by decide +kernel
theorem dX11_see_30 : decode cX11_see 30 = .ok (.iload_n 2, 1) := by decide +kernel
theorem dX11_see_31 : decode cX11_see 31 = .ok (.iload_n 3, 1) := by decide +kernel
theorem dX11_see_32 : decode cX11_see 32 = .ok (.if_icmp .eq 15, 3) := by decide +kernel
theorem dX11_see_35 : decode cX11_see 35 = .ok (.iload 4, 2) := by decide +kernel
theorem dX11_see_37 : decode cX11_see 37 = .ok (.iconst 0, 1) := by decide +kernel
theorem dX11_see_38 : decode cX11_see 38 = .ok (.sipush 9999, 3) := by decide +kernel
theorem dX11_see_41 : decode cX11_see 41 = .ok (.invokestatic 207, 3) := by decide +kernel
theorem dX11_see_44 : decode cX11_see 44 = .ok (.ifCond .ne 6, 3) := by decide +kernel
theorem dX11_see_47 : decode cX11_see 47 = .ok (.bipush (-2), 2) := by decide +kernel
theorem dX11_see_49 : decode cX11_see 49 = .ok (.ireturn, 1) := by decide +kernel
theorem dX11_see_50 : decode cX11_see 50 = .ok (.aload_n 0, 1) := by decide +kernel
theorem dX11_see_51 : decode cX11_see 51 = .ok (.getfield 192, 3) := by decide +kernel
theorem dX11_see_54 : decode cX11_see 54 = .ok (.bipush 20, 2) := by decide +kernel
theorem dX11_see_56 : decode cX11_see 56 = .ok (.if_icmp .ne 6, 3) := by decide +kernel
theorem dX11_see_59 : decode cX11_see 59 = .ok (.bipush (-3), 2) := by decide +kernel
theorem dX11_see_61 : decode cX11_see 61 = .ok (.ireturn, 1) := by decide +kernel
theorem dX11_see_62 : decode cX11_see 62 = .ok (.aload_n 0, 1) := by decide +kernel
theorem dX11_see_63 : decode cX11_see 63 = .ok (.iload_n 1, 1) := by decide +kernel
theorem dX11_see_64 : decode cX11_see 64 = .ok (.putfield 198, 3) := by decide +kernel
theorem dX11_see_67 : decode cX11_see 67 = .ok (.aload_n 0, 1) := by decide +kernel
theorem dX11_see_68 : decode cX11_see 68 = .ok (.getfield 70, 3) := by decide +kernel
theorem dX11_see_71 : decode cX11_see 71 = .ok (.aload_n 0, 1) := by decide +kernel
theorem dX11_see_72 : decode cX11_see 72 = .ok (.getfield 192, 3) := by decide +kernel
theorem dX11_see_75 : decode cX11_see 75 = .ok (.iload_n 1, 1) := by decide +kernel
theorem dX11_see_76 : decode cX11_see 76 = .ok (.iastore, 1) := by decide +kernel
theorem dX11_see_77 : decode cX11_see 77 = .ok (.aload_n 0, 1) := by decide +kernel
theorem dX11_see_78 : decode cX11_see 78 = .ok (.getfield 73, 3) := by decide +kernel
theorem dX11_see_81 : decode cX11_see 81 = .ok (.aload_n 0, 1) := by decide +kernel
theorem dX11_see_82 : decode cX11_see 82 = .ok (.getfield 192, 3) := by decide +kernel
theorem dX11_see_85 : decode cX11_see 85 = .ok (.iload_n 2, 1) := by decide +kernel
theorem dX11_see_86 : decode cX11_see 86 = .ok (.iastore, 1) := by decide +kernel
theorem dX11_see_87 : decode cX11_see 87 = .ok (.aload_n 0, 1) := by decide +kernel
theorem dX11_see_88 : decode cX11_see 88 = .ok (.getfield 76, 3) := by decide +kernel
theorem dX11_see_91 : decode cX11_see 91 = .ok (.aload_n 0, 1) := by decide +kernel
theorem dX11_see_92 : decode cX11_see 92 = .ok (.getfield 192, 3) := by decide +kernel
theorem dX11_see_95 : decode cX11_see 95 = .ok (.iload_n 3, 1) := by decide +kernel
theorem dX11_see_96 : decode cX11_see 96 = .ok (.iastore, 1) := by decide +kernel
theorem dX11_see_97 : decode cX11_see 97 = .ok (.aload_n 0, 1) := by decide +kernel
theorem dX11_see_98 : decode cX11_see 98 = .ok (.getfield 79, 3) := by decide +kernel
theorem dX11_see_101 : decode cX11_see 101 = .ok (.aload_n 0, 1) := by decide +kernel
theorem dX11_see_102 : decode cX11_see 102 = .ok (.getfield 192, 3) := by decide +kernel
theorem dX11_see_105 : decode cX11_see 105 = .ok (.iload 4, 2) := by decide +kernel
theorem dX11_see_107 : decode cX11_see 107 = .ok (.iastore, 1) := by decide +kernel
theorem dX11_see_108 : decode cX11_see 108 = .ok (.aload_n 0, 1) := by decide +kernel
theorem dX11_see_109 : decode cX11_see 109 = .ok (.dup, 1) := by decide +kernel
theorem dX11_see_110 : decode cX11_see 110 = .ok (.getfield 192, 3) := by decide +kernel
theorem dX11_see_113 : decode cX11_see 113 = .ok (.iconst 1, 1) := by decide +kernel
theorem dX11_see_114 : decode cX11_see 114 = .ok (.iadd, 1) := by decide +kernel
theorem dX11_see_115 : decode cX11_see 115 = .ok (.putfield 192, 3) := by decide +kernel
theorem dX11_see_118 : decode cX11_see 118 = .ok (.aload_n 0, 1) := by decide +kernel
theorem dX11_see_119 : decode cX11_see 119 = .ok (.getfield 192, 3) := by decide +kernel
theorem dX11_see_122 : decode cX11_see 122 = .ok (.iconst 1, 1) := by decide +kernel
theorem dX11_see_123 : decode cX11_see 123 = .ok (.isub, 1) := by decide +kernel
theorem dX11_see_124 : decode cX11_see 124 = .ok (.ireturn, 1) := by decide +kernel
set_option maxRecDepth 20000 in
theorem ggX11_right_X11_in : GoodIn wsX11_right wsX11_in := goodIn_r _ [10] (by decide +kernel) (by decide +kernel)
set_option maxRecDepth 20000 in
theorem gX11_right_X11_in : GoodIn wsX11_right (va_wsS RX11 207 yX11_in wsX11_in) := goodIn_app (goodIn_of _ (by decide +kernel)) ggX11_right_X11_in
theorem dX11_right_0 : decode cX11_right 0 = .ok (.iload_n 1, 1) := by decide +kernel
theorem dX11_right_1 : decode cX11_right 1 = .ok (.aload_n 0, 1) := by decide +kernel
theorem dX11_right_2 : decode cX11_right 2 = .ok (.getfield 198, 3) := by decide +kernel
theorem dX11_right_5 : decode cX11_right 5 = .ok (.sipush 999, 3) := by decide +kernel
theorem dX11_right_8 : decode cX11_right 8 = .ok (.invokestatic 207, 3) := by decide +kernel
theorem dX11_right_11 : decode cX11_right 11 = .ok (.ifCond .eq 28, 3) := by decide +kernel
theorem dX11_right_14 : decode cX11_right 14 = .ok (.iload_n 2, 1) := by decide +kernel
theorem dX11_right_15 : decode cX11_right 15 = .ok (.iconst 0, 1) := by decide +kernel
theorem dX11_right_16 : decode cX11_right 16 = .ok (.aload_n 0, 1) := by decide +kernel
theorem dX11_right_17 : decode cX11_right 17 = .ok (.getfield 192, 3) := by decide +kernel
theorem dX11_right_20 : decode cX11_right 20 = .ok (.iconst 1, 1) := by decide +kernel
theorem dX11_right_21 : decode cX11_right 21 = .ok (.isub, 1) := by decide +kernel
theorem dX11_right_22 : decode cX11_right 22 = .ok (.invokestatic 207, 3) := by decide +kernel
theorem dX11_right_25 : decode cX11_right 25 = .ok (.ifCond .eq 14, 3) := by decide +kernel
theorem dX11_right_28 : decode cX11_right 28 = .ok (.iload_n 3, 1) := by decide +kernel
theorem dX11_right_29 : decode cX11_right 29 = .ok (.iconst 0, 1) := by decide +kernel
theorem dX11_right_30 : decode cX11_right 30 = .ok (.sipush 9999, 3) := by decide +kernel
theorem dX11_right_33 : decode cX11_right 33 = .ok (.invokestatic 207, 3) := by decide +kernel
theorem dX11_right_36 : decode cX11_right 36 = .ok (.ifCond .ne 6, 3) := by decide +kernel
theorem dX11_right_39 : decode cX11_right 39 = .ok (.bipush (-2), 2) := by decide +kernel
theorem dX11_right_41 : decode cX11_right 41 = .ok (.ireturn, 1) := by decide +kernel
theorem dX11_right_42 : decode cX11_right 42 = .ok (.aload_n 0, 1) := by decide +kernel
theorem dX11_right_43 : decode cX11_right 43 = .ok (.getfield 195, 3) := by decide +kernel
theorem dX11_right_46 : decode cX11_right 46 = .ok (.bipush 20, 2) := by decide +kernel
theorem dX11_right_48 : decode cX11_right 48 = .ok (.if_icmp .ne 6, 3) := by decide +kernel
theorem dX11_right_51 : decode cX11_right 51 = .ok (.bipush (-3), 2) := by decide +kernel
theorem dX11_right_53 : decode cX11_right 53 = .ok (.ireturn, 1) := by decide +kernel
theorem dX11_right_54 : decode cX11_right 54 = .ok (.aload_n 0, 1) := by decide +kernel
theorem dX11_right_55 : decode cX11_right 55 = .ok (.iload_n 1, 1) := by decide +kernel
theorem dX11_right_56 : decode cX11_right 56 = .ok (.putfield 198, 3) := by decide +kernel
theorem dX11_right_59 : decode cX11_right 59 = .ok (.aload_n 0, 1) := by decide +kernel
theorem dX11_right_60 : decode cX11_right 60 = .ok (.getfield 82, 3) := by decide +kernel
theorem dX11_right_63 : decode cX11_right 63 = .ok (.aload_n 0, 1) := by decide +kernel
theorem dX11_right_64 : decode cX11_right 64 = .ok (.getfield 195, 3) := by decide +kernel
theorem dX11_right_67 : decode cX11_right 67 = .ok (.iload_n 1, 1) := by decide +kernel
theorem dX11_right_68 : decode cX11_right 68 = .ok (.iastore, 1) := by decide +kernel
theorem dX11_right_69 : decode cX11_right 69 = .ok (.aload_n 0, 1) := by decide +kernel
theorem dX11_right_70 : decode cX11_right 70 = .ok (.getfield 85, 3) := by decide +kernel
theorem dX11_right_73 : decode cX11_right 73 = .ok (.aload_n 0, 1) := by decide +kernel
theorem dX11_right_74 : decode cX11_right 74 = .ok (.getfield 195, 3) := by decide +kernel
theorem dX11_right_77 : decode cX11_right 77 = .ok (.iload_n 2, 1) := by decide +kernel
theorem dX11_right_78 : decode cX11_right 78 = .ok (.iastore, 1) := by decide +kernel
theorem dX11_right_79 : decode cX11_right 79 = .ok (.aload_n 0, 1) := by decide +kernel
theorem dX11_right_80 : decode cX11_right 80 = .ok (.getfield 88, 3) := by decide +kernel
