set_option maxRecDepth 20000 in
theorem ggX10_init_X8_init : GoodIn wsX10_init wsX8_init := goodIn_r _ [46, 47, 2, 3, 48, 49, 154, 155, 156, 157, 158, 159] (by decide +kernel) (by decide +kernel)
set_option maxRecDepth 20000 in
theorem gX10_init_X8_init_n9 : GoodIn wsX10_init (wsX8_init) := ggX10_init_X8_init
set_option maxRecDepth 20000 in
theorem ggX10_init_X6_init : GoodIn wsX10_init wsX6_init := goodIn_r _ [51, 52, 2, 3, 53, 54, 173] (by decide +kernel) (by decide +kernel)
set_option maxRecDepth 20000 in
theorem gX10_init_X6_init_n18 : GoodIn wsX10_init (wsX6_init) := ggX10_init_X6_init
set_option maxRecDepth 20000 in
theorem ggX10_init_X1_init : GoodIn wsX10_init wsX1_init := goodIn_r _ [56, 57, 2, 3, 58, 174, 175, 176, 177, 178, 179] (by decide +kernel) (by decide +kernel)
set_option maxRecDepth 20000 in
theorem gX10_init_X1_init_n25 : GoodIn wsX10_init (wsX1_init) := ggX10_init_X1_init
set_option maxRecDepth 20000 in
theorem ggX10_init_X9_init : GoodIn wsX10_init wsX9_init := goodIn_r _ [60, 61, 2, 3, 40, 62, 63, 180, 181, 182, 183, 184, 185, 186] (by decide +kernel) (by decide +kernel)
set_option maxRecDepth 20000 in
theorem gX10_init_X9_init_n32 : GoodIn wsX10_init (wsX9_init) := ggX10_init_X9_init
set_option maxRecDepth 20000 in
theorem ggX10_init_X0_init : GoodIn wsX10_init wsX0_init := goodIn_r _ [65, 66, 2, 3, 40, 67, 187, 188] (by decide +kernel) (by decide +kernel)
set_option maxRecDepth 20000 in
theorem gX10_init_X0_init_n39 : GoodIn wsX10_init (wsX0_init) := ggX10_init_X0_init
set_option maxRecDepth 20000 in
theorem ggX10_init_X4_init : GoodIn wsX10_init wsX4_init := goodIn_r _ [69, 70, 2, 3, 40, 71, 72, 73, 189, 190, 191, 192, 193] (by decide +kernel) (by decide +kernel)
set_option maxRecDepth 20000 in
theorem gX10_init_X4_init_n46 : GoodIn wsX10_init (wsX4_init) := ggX10_init_X4_init
set_option maxRecDepth 20000 in
theorem ggX10_init_X2_init : GoodIn wsX10_init wsX2_init := goodIn_r _ [76, 77, 2, 3, 40, 78, 79, 194, 195] (by decide +kernel) (by decide +kernel)
set_option maxRecDepth 20000 in
theorem gX10_init_X2_init : GoodIn wsX10_init (wsX2_init) := ggX10_init_X2_init
set_option maxRecDepth 20000 in
theorem ggX10_init_X7_init : GoodIn wsX10_init wsX7_init := goodIn_r _ [81, 82, 2, 3, 40, 83, 84, 85, 86, 87, 88, 89, 90, 91, 196, 197, 198, 199, 200, 201, 202, 203, 204, 205, 206, 207] (by decide +kernel) (by decide +kernel)
set_option maxRecDepth 20000 in
theorem gX10_init_X7_init_n60 : GoodIn wsX10_init (wsX7_init) := ggX10_init_X7_init
set_option maxRecDepth 20000 in
theorem ggX10_init_X3_init : GoodIn wsX10_init wsX3_init := goodIn_r _ [93, 94, 2, 3, 40, 95, 96, 208, 209, 210] (by decide +kernel) (by decide +kernel)
set_option maxRecDepth 20000 in
theorem gX10_init_X3_init_n67 : GoodIn wsX10_init (wsX3_init) := ggX10_init_X3_init
set_option maxRecDepth 20000 in
theorem ggX10_init_X6_withCorners : GoodIn wsX10_init wsX6_withCorners := goodIn_r _ [100, 54, 53, 101, 102, 103, 104, 105, 106, 2, 3, 40, 107, 108, 109, 110, 111, 112, 113, 114, 115, 116, 117, 118, 119, 120, 121, 122, 123, 124, 125, 126, 127, 128, 129, 130, 131, 132, 133, 134, 135, 136, 137, 138, 139, 140, 141, 142, 143, 144, 145, 173, 211, 212, 213, 214, 215, 216, 217, 218, 219] (by decide +kernel) (by decide +kernel)
set_option maxRecDepth 20000 in
theorem gX10_init_X6_withCorners : GoodIn wsX10_init (wsV RX10 80 RX6 yX6_withCorners wsX6_withCorners) := goodIn_app (goodIn_of _ (by decide +kernel)) ggX10_init_X6_withCorners
set_option maxRecDepth 20000 in
theorem ggX10_init_X5_cutAt : GoodIn wsX10_init wsX5_cutAt := goodIn_r _ [149, 112, 150, 151, 152, 102, 153, 138, 211, 212, 213, 214, 215, 216, 217, 218, 219] (by decide +kernel) (by decide +kernel)
set_option maxRecDepth 20000 in
theorem gX10_init_X5_cutAt : GoodIn wsX10_init (wsV RX10 88 RX5 yX5_cutAt wsX5_cutAt) := goodIn_app (goodIn_of _ (by decide +kernel)) ggX10_init_X5_cutAt
theorem dX10_init_0 : decode cX10_init 0 = .ok (.aload_n 0, 1) := by decide +kernel
theorem dX10_init_1 : decode cX10_init 1 = .ok (.invokespecial 1, 3) := by decide +kernel
theorem dX10_init_4 : decode cX10_init 4 = .ok (.aload_n 0, 1) := by decide +kernel
theorem dX10_init_5 : decode cX10_init 5 = .ok (.new 7, 3) := by decide +kernel
theorem dX10_init_8 : decode cX10_init 8 = .ok (.dup, 1) := by decide +kernel
theorem dX10_init_9 : decode cX10_init 9 = .ok (.invokespecial 9, 3) := by decide +kernel
theorem dX10_init_12 : decode cX10_init 12 = .ok (.putfield 10, 3) := by decide +kernel
theorem dX10_init_15 : decode cX10_init 15 = .ok (.aload_n 0, 1) := by decide +kernel
theorem dX10_init_16 : decode cX10_init 16 = .ok (.new 16, 3) := by decide +kernel
theorem dX10_init_19 : decode cX10_init 19 = .ok (.dup, 1) := by decide +kernel
theorem dX10_init_20 : decode cX10_init 20 = .ok (.invokespecial 18, 3) := by decide +kernel
theorem dX10_init_23 : decode cX10_init 23 = .ok (.putfield 19, 3) := by decide +kernel
theorem dX10_init_26 : decode cX10_init 26 = .ok (.aload_n 0, 1) := by decide +kernel
theorem dX10_init_27 : decode cX10_init 27 = .ok (.new 23, 3) := by decide +kernel
theorem dX10_init_30 : decode cX10_init 30 = .ok (.dup, 1) := by decide +kernel
theorem dX10_init_31 : decode cX10_init 31 = .ok (.invokespecial 25, 3) := by decide +kernel
theorem dX10_init_34 : decode cX10_init 34 = .ok (.putfield 26, 3) := by decide +kernel
theorem dX10_init_37 : decode cX10_init 37 = .ok (.aload_n 0, 1) := by decide +kernel
theorem dX10_init_38 : decode cX10_init 38 = .ok (.new 30, 3) := by decide +kernel
theorem dX10_init_41 : decode cX10_init 41 = .ok (.dup, 1) := by decide +kernel
theorem dX10_init_42 : decode cX10_init 42 = .ok (.invokespecial 32, 3) := by decide +kernel
theorem dX10_init_45 : decode cX10_init 45 = .ok (.putfield 33, 3) := by decide +kernel
theorem dX10_init_48 : decode cX10_init 48 = .ok (.aload_n 0, 1) := by decide +kernel
theorem dX10_init_49 : decode cX10_init 49 = .ok (.new 37, 3) := by decide +kernel
theorem dX10_init_52 : decode cX10_init 52 = .ok (.dup, 1) := by decide +kernel
theorem dX10_init_53 : decode cX10_init 53 = .ok (.invokespecial 39, 3) := by decide +kernel
theorem dX10_init_56 : decode cX10_init 56 = .ok (.putfield 40, 3) := by decide +kernel
theorem dX10_init_59 : decode cX10_init 59 = .ok (.aload_n 0, 1) := by decide +kernel
theorem dX10_init_60 : decode cX10_init 60 = .ok (.new 44, 3) := by decide +kernel
theorem dX10_init_63 : decode cX10_init 63 = .ok (.dup, 1) := by decide +kernel
theorem dX10_init_64 : decode cX10_init 64 = .ok (.invokespecial 46, 3) := by decide +kernel
theorem dX10_init_67 : decode cX10_init 67 = .ok (.putfield 47, 3) := by decide +kernel
theorem dX10_init_70 : decode cX10_init 70 = .ok (.aload_n 0, 1) := by decide +kernel
theorem dX10_init_71 : decode cX10_init 71 = .ok (.new 51, 3) := by decide +kernel
theorem dX10_init_74 : decode cX10_init 74 = .ok (.dup, 1) := by decide +kernel
theorem dX10_init_75 : decode cX10_init 75 = .ok (.invokespecial 53, 3) := by decide +kernel
theorem dX10_init_78 : decode cX10_init 78 = .ok (.putfield 54, 3) := by decide +kernel
theorem dX10_init_81 : decode cX10_init 81 = .ok (.aload_n 0, 1) := by decide +kernel
theorem dX10_init_82 : decode cX10_init 82 = .ok (.new 58, 3) := by decide +kernel
theorem dX10_init_85 : decode cX10_init 85 = .ok (.dup, 1) := by decide +kernel
theorem dX10_init_86 : decode cX10_init 86 = .ok (.invokespecial 60, 3) := by decide +kernel
theorem dX10_init_89 : decode cX10_init 89 = .ok (.putfield 61, 3) := by decide +kernel
theorem dX10_init_92 : decode cX10_init 92 = .ok (.aload_n 0, 1) := by decide +kernel
theorem dX10_init_93 : decode cX10_init 93 = .ok (.new 65, 3) := by decide +kernel
theorem dX10_init_96 : decode cX10_init 96 = .ok (.dup, 1) := by decide +kernel
theorem dX10_init_97 : decode cX10_init 97 = .ok (.invokespecial 67, 3) := by decide +kernel
theorem dX10_init_100 : decode cX10_init 100 = .ok (.putfield 68, 3) := by decide +kernel
theorem dX10_init_103 : decode cX10_init 103 = .ok (.aload_n 0, 1) := by decide +kernel
theorem dX10_init_104 : decode cX10_init 104 = .ok (.bipush 10, 2) := by decide +kernel
theorem dX10_init_106 : decode cX10_init 106 = .ok (.newarray .int, 2) := by decide +kernel
theorem dX10_init_108 : decode cX10_init 108 = .ok (.putfield 72, 3) := by decide +kernel
theorem dX10_init_111 : decode cX10_init 111 = .ok (.aload_n 0, 1) := by decide +kernel
theorem dX10_init_112 : decode cX10_init 112 = .ok (.iconst (-1), 1) := by decide +kernel
theorem dX10_init_113 : decode cX10_init 113 = .ok (.putfield 76, 3) := by decide +kernel
theorem dX10_init_116 : decode cX10_init 116 = .ok (.aload_n 0, 1) := by decide +kernel
theorem dX10_init_117 : decode cX10_init 117 = .ok (.aload_n 0, 1) := by decide +kernel
theorem dX10_init_118 : decode cX10_init 118 = .ok (.getfield 19, 3) := by decide +kernel
theorem dX10_init_121 : decode cX10_init 121 = .ok (.iconst 4, 1) := by decide +kernel
theorem dX10_init_122 : decode cX10_init 122 = .ok (.invokevirtual 80, 3) := by decide +kernel
theorem dX10_init_125 : decode cX10_init 125 = .ok (.putfield 84, 3) := by decide +kernel
theorem dX10_init_128 : decode cX10_init 128 = .ok (.aload_n 0, 1) := by decide +kernel
theorem dX10_init_129 : decode cX10_init 129 = .ok (.aload_n 0, 1) := by decide +kernel
theorem dX10_init_130 : decode cX10_init 130 = .ok (.getfield 84, 3) := by decide +kernel
theorem dX10_init_133 : decode cX10_init 133 = .ok (.iconst 0, 1) := by decide +kernel
theorem dX10_init_134 : decode cX10_init 134 = .ok (.invokevirtual 88, 3) := by decide +kernel
theorem dX10_init_137 : decode cX10_init 137 = .ok (.putfield 94, 3) := by decide +kernel
theorem dX10_init_140 : decode cX10_init 140 = .ok (.return_, 1) := by decide +kernel
set_option maxRecDepth 20000 in
theorem ggX10_feed_X8_hasRoomForTwenty : GoodIn wsX10_feed wsX8_hasRoomForTwenty := goodIn_r _ [6, 7, 30, 31, 32, 33, 34, 35] (by decide +kernel) (by decide +kernel)
set_option maxRecDepth 20000 in
theorem gX10_feed_X8_hasRoomForTwenty : GoodIn wsX10_feed (wsV RX10 97 RX8 yX8_hasRoomForTwenty wsX8_hasRoomForTwenty) := goodIn_app (goodIn_of _ (by decide +kernel)) ggX10_feed_X8_hasRoomForTwenty
set_option maxRecDepth 20000 in
theorem ggX10_feed_X8_append : GoodIn wsX10_feed wsX8_append := goodIn_r _ [11, 7, 12, 30, 31, 32, 33, 34, 35] (by decide +kernel) (by decide +kernel)
set_option maxRecDepth 20000 in
theorem gX10_feed_X8_append : GoodIn wsX10_feed (wsV RX10 101 RX8 yX8_append wsX8_append) := goodIn_app (goodIn_of _ (by decide +kernel)) ggX10_feed_X8_append
set_option maxRecDepth 20000 in
theorem ggX10_feed_X8_size : GoodIn wsX10_feed wsX8_size := goodIn_r _ [16, 7, 30, 31, 32, 33, 34, 35] (by decide +kernel) (by decide +kernel)
set_option maxRecDepth 20000 in
theorem gX10_feed_X8_size : GoodIn wsX10_feed (wsV RX10 105 RX8 yX8_size wsX8_size) := goodIn_app (goodIn_of _ (by decide +kernel)) ggX10_feed_X8_size
theorem dX10_feed_0 : decode cX10_feed 0 = .ok (.aload_n 0, 1) := by decide +kernel
theorem dX10_feed_1 : decode cX10_feed 1 = .ok (.getfield 10, 3) := by decide +kernel
theorem dX10_feed_4 : decode cX10_feed 4 = .ok (.invokevirtual 97, 3) := by decide +kernel
theorem dX10_feed_7 : decode cX10_feed 7 = .ok (.ifCond .ne 6, 3) := by decide +kernel
theorem dX10_feed_10 : decode cX10_feed 10 = .ok (.bipush (-3), 2) := by decide +kernel
theorem dX10_feed_12 : decode cX10_feed 12 = .ok (.ireturn, 1) := by decide +kernel
theorem dX10_feed_13 : decode cX10_feed 13 = .ok (.aload_n 0, 1) := by decide +kernel
theorem dX10_feed_14 : decode cX10_feed 14 = .ok (.getfield 10, 3) := by decide +kernel
theorem dX10_feed_17 : decode cX10_feed 17 = .ok (.iload_n 1, 1) := by decide +kernel
theorem dX10_feed_18 : decode cX10_feed 18 = .ok (.invokevirtual 101, 3) := by decide +kernel
theorem dX10_feed_21 : decode cX10_feed 21 = .ok (.aload_n 0, 1) := by decide +kernel
theorem dX10_feed_22 : decode cX10_feed 22 = .ok (.getfield 10, 3) := by decide +kernel
theorem dX10_feed_25 : decode cX10_feed 25 = .ok (.iload_n 2, 1) := by decide +kernel
theorem dX10_feed_26 : decode cX10_feed 26 = .ok (.invokevirtual 101, 3) := by decide +kernel
theorem dX10_feed_29 : decode cX10_feed 29 = .ok (.aload_n 0, 1) := by decide +kernel
theorem dX10_feed_30 : decode cX10_feed 30 = .ok (.getfield 10, 3) := by decide +kernel
theorem dX10_feed_33 : decode cX10_feed 33 = .ok (.iload_n 3, 1) := by decide +kernel
theorem dX10_feed_34 : decode cX10_feed 34 = .ok (.invokevirtual 101, 3) := by decide +kernel
theorem dX10_feed_37 : decode cX10_feed 37 = .ok (.aload_n 0, 1) := by decide +kernel
theorem dX10_feed_38 : decode cX10_feed 38 = .ok (.getfield 10, 3) := by decide +kernel
theorem dX10_feed_41 : decode cX10_feed 41 = .ok (.iload 4, 2) := by decide +kernel
theorem dX10_feed_43 : decode cX10_feed 43 = .ok (.invokevirtual 101, 3) := by decide +kernel
theorem dX10_feed_46 : decode cX10_feed 46 = .ok (.aload_n 0, 1) := by decide +kernel
theorem dX10_feed_47 : decode cX10_feed 47 = .ok (.getfield 10, 3) := by decide +kernel
theorem dX10_feed_50 : decode cX10_feed 50 = .ok (.iload 5, 2) := by decide +kernel
theorem dX10_feed_52 : decode cX10_feed 52 = .ok (.invokevirtual 101, 3) := by decide +kernel
theorem dX10_feed_55 : decode cX10_feed 55 = .ok (.aload_n 0, 1) := by decide +kernel
theorem dX10_feed_56 : decode cX10_feed 56 = .ok (.getfield 10, 3) := by decide +kernel
theorem dX10_feed_59 : decode cX10_feed 59 = .ok (.invokevirtual 105, 3) := by decide +kernel
theorem dX10_feed_62 : decode cX10_feed 62 = .ok (.ireturn, 1) := by decide +kernel
set_option maxRecDepth 20000 in
theorem ggX10_end_X8_size : GoodIn wsX10_end wsX8_size := goodIn_r _ [6, 7, 25, 26, 27, 28, 29, 30] (by decide +kernel) (by decide +kernel)
set_option maxRecDepth 20000 in
theorem gX10_end_X8_size : GoodIn wsX10_end (wsV RX10 105 RX8 yX8_size wsX8_size) := goodIn_app (goodIn_of _ (by decide +kernel)) ggX10_end_X8_size
set_option maxRecDepth 20000 in
theorem ggX10_end_X8_shorten : GoodIn wsX10_end wsX8_shorten := goodIn_r _ [11, 7, 25, 26, 27, 28, 29, 30] (by decide +kernel) (by decide +kernel)
set_option maxRecDepth 20000 in
theorem gX10_end_X8_shorten : GoodIn wsX10_end (wsV RX10 109 RX8 yX8_shorten wsX8_shorten) := goodIn_app (goodIn_of _ (by decide +kernel)) ggX10_end_X8_shorten
theorem dX10_end_0 : decode cX10_end 0 = .ok (.iload_n 1, 1) := by decide +kernel
theorem dX10_end_1 : decode cX10_end 1 = .ok (.ifCond .lt 14, 3) := by decide +kernel
theorem dX10_end_4 : decode cX10_end 4 = .ok (.iload_n 1, 1) := by decide +kernel
theorem dX10_end_5 : decode cX10_end 5 = .ok (.aload_n 0, 1) := by decide +kernel
theorem dX10_end_6 : decode cX10_end 6 = .ok (.getfield 10, 3) := by decide +kernel
theorem dX10_end_9 : decode cX10_end 9 = .ok (.invokevirtual 105, 3) := by decide +kernel
theorem dX10_end_12 : decode cX10_end 12 = .ok (.if_icmp .le 5, 3) := by decide +kernel
theorem dX10_end_15 : decode cX10_end 15 = .ok (.iconst (-1), 1) := by decide +kernel
theorem dX10_end_16 : decode cX10_end 16 = .ok (.ireturn, 1) := by decide +kernel
theorem dX10_end_17 : decode cX10_end 17 = .ok (.aload_n 0, 1) := by decide +kernel
theorem dX10_end_18 : decode cX10_end 18 = .ok (.getfield 10, 3) := by decide +kernel
theorem dX10_end_21 : decode cX10_end 21 = .ok (.iload_n 1, 1) := by decide +kernel
theorem dX10_end_22 : decode cX10_end 22 = .ok (.invokevirtual 109, 3) := by decide +kernel
theorem dX10_end_25 : decode cX10_end 25 = .ok (.iload_n 1, 1) := by decide +kernel
theorem dX10_end_26 : decode cX10_end 26 = .ok (.ireturn, 1) := by decide +kernel
set_option maxRecDepth 20000 in
theorem ggX10_cut_X1_understand : GoodIn wsX10_cut wsX1_understand := goodIn_r _ [10, 11, 12, 13, 14, 15, 16, 17, 18, 19, 20, 21, 22, 23, 24, 25, 26, 27, 28, 29, 30, 31, 32, 33, 34, 35, 36, 37, 38, 39, 40, 41, 42, 43, 44, 45, 46, 47, 48, 49, 50, 9, 51, 52, 53, 54, 55, 56, 57, 58, 59, 60, 61, 62, 63, 64, 65, 66, 67, 68, 69, 70, 71, 72, 73, 74, 75, 76, 77, 78, 79, 80, 81, 82, 83, 84, 85, 86, 87, 88, 89, 90, 91, 92, 93, 94, 95, 96, 97, 98, 99, 100, 101, 102, 103, 104, 105, 106, 107, 108, 109, 110, 111, 112, 113, 114, 115, 116, 117, 118, 119, 120, 121, 122, 123, 124, 125, 126, 127, 128, 129, 130, 131, 132, 133, 134, 135, 136, 137, 138, 139, 140, 141, 142, 143, 144, 145, 146, 147, 148, 149, 150, 151, 152, 153, 154, 155, 156, 157, 158, 159, 160, 161, 162, 163, 164, 165, 166, 167, 168, 169, 170, 171, 172, 173, 174, 175, 176, 177, 178, 179, 180, 181, 182, 183, 184, 185, 186, 187, 188, 189, 190, 191, 192, 193, 194, 195, 196, 197, 198, 199, 200, 201, 202, 203, 204, 205, 206, 251, 252, 253, 254, 255, 256, 257, 258, 259, 260, 261, 262, 263, 264, 265, 266, 267, 268, 269, 270, 271, 272] (by decide +kernel) (by decide +kernel)
set_option maxRecDepth 20000 in
theorem gX10_cut_X1_understand : GoodIn wsX10_cut (wsV RX10 112 RX1 yX1_understand wsX1_understand) := goodIn_app (goodIn_of _ (by decide +kernel)) ggX10_cut_X1_understand
set_option maxRecDepth 20000 in
theorem ggX10_cut_X8_shorten : GoodIn wsX10_cut wsX8_shorten := goodIn_r _ [210, 26, 257, 258, 259, 260, 261, 262] (by decide +kernel) (by decide +kernel)
set_option maxRecDepth 20000 in
theorem gX10_cut_X8_shorten : GoodIn wsX10_cut (wsV RX10 109 RX8 yX8_shorten wsX8_shorten) := goodIn_app (goodIn_of _ (by decide +kernel)) ggX10_cut_X8_shorten
set_option maxRecDepth 20000 in
theorem ggX10_cut_X1_polygon : GoodIn wsX10_cut wsX1_polygon := goodIn_r _ [214, 14, 251, 252, 253, 254, 255, 256] (by decide +kernel) (by decide +kernel)
set_option maxRecDepth 20000 in
theorem gX10_cut_X1_polygon : GoodIn wsX10_cut (wsV RX10 116 RX1 yX1_polygon wsX1_polygon) := goodIn_app (goodIn_of _ (by decide +kernel)) ggX10_cut_X1_polygon
set_option maxRecDepth 20000 in
theorem ggX10_cut_X1_bits : GoodIn wsX10_cut wsX1_bits := goodIn_r _ [218, 15, 251, 252, 253, 254, 255, 256] (by decide +kernel) (by decide +kernel)
set_option maxRecDepth 20000 in
theorem gX10_cut_X1_bits : GoodIn wsX10_cut (wsV RX10 119 RX1 yX1_bits wsX1_bits) := goodIn_app (goodIn_of _ (by decide +kernel)) ggX10_cut_X1_bits
set_option maxRecDepth 20000 in
theorem ggX10_cut_X10_become : GoodIn wsX10_cut wsX10_become := goodIn_r _ [223, 4, 224, 5, 225, 175, 176, 121, 177, 135, 226, 227, 228, 229, 230, 231, 232, 233, 238, 239, 240, 241, 242, 243, 244, 245, 246, 247, 248, 249, 250, 264, 265, 266, 267, 268, 269, 270, 271, 272, 273, 274, 275, 276, 277, 278, 279, 280, 281, 282, 283, 284] (by decide +kernel) (by decide +kernel)
set_option maxRecDepth 20000 in
theorem gX10_cut_X10_become : GoodIn wsX10_cut (wsV RX10 121 RX10 yX10_become wsX10_become) := goodIn_app (goodIn_of _ (by decide +kernel)) ggX10_cut_X10_become
set_option maxRecDepth 20000 in
theorem ggX10_cut_X5_numberOf : GoodIn wsX10_cut wsX5_numberOf := goodIn_r _ [237, 160, 134, 264, 265, 266, 267, 268, 269, 270, 271, 272] (by decide +kernel) (by decide +kernel)
set_option maxRecDepth 20000 in
theorem gX10_cut_X5_numberOf : GoodIn wsX10_cut (wsV RX10 125 RX5 yX5_numberOf wsX5_numberOf) := goodIn_app (goodIn_of _ (by decide +kernel)) ggX10_cut_X5_numberOf
theorem dX10_cut_0 : decode cX10_cut 0 = .ok (.aload_n 0, 1) := by decide +kernel
theorem dX10_cut_1 : decode cX10_cut 1 = .ok (.getfield 26, 3) := by decide +kernel
theorem dX10_cut_4 : decode cX10_cut 4 = .ok (.aload_n 0, 1) := by decide +kernel
theorem dX10_cut_5 : decode cX10_cut 5 = .ok (.getfield 10, 3) := by decide +kernel
theorem dX10_cut_8 : decode cX10_cut 8 = .ok (.aload_n 0, 1) := by decide +kernel
theorem dX10_cut_9 : decode cX10_cut 9 = .ok (.getfield 19, 3) := by decide +kernel
theorem dX10_cut_12 : decode cX10_cut 12 = .ok (.invokevirtual 112, 3) := by decide +kernel
theorem dX10_cut_15 : decode cX10_cut 15 = .ok (.istore_n 1, 1) := by decide +kernel
theorem dX10_cut_16 : decode cX10_cut 16 = .ok (.aload_n 0, 1) := by decide +kernel
theorem dX10_cut_17 : decode cX10_cut 17 = .ok (.getfield 10, 3) := by decide +kernel
theorem dX10_cut_20 : decode cX10_cut 20 = .ok (.iconst 0, 1) := by decide +kernel
theorem dX10_cut_21 : decode cX10_cut 21 = .ok (.invokevirtual 109, 3) := by decide +kernel
theorem dX10_cut_24 : decode cX10_cut 24 = .ok (.iload_n 1, 1) := by decide +kernel
theorem dX10_cut_25 : decode cX10_cut 25 = .ok (.ifCond .ne 5, 3) := by decide +kernel
theorem dX10_cut_28 : decode cX10_cut 28 = .ok (.iconst (-1), 1) := by decide +kernel
theorem dX10_cut_29 : decode cX10_cut 29 = .ok (.ireturn, 1) := by decide +kernel
theorem dX10_cut_30 : decode cX10_cut 30 = .ok (.aload_n 0, 1) := by decide +kernel
theorem dX10_cut_31 : decode cX10_cut 31 = .ok (.aload_n 0, 1) := by decide +kernel
theorem dX10_cut_32 : decode cX10_cut 32 = .ok (.getfield 26, 3) := by decide +kernel
theorem dX10_cut_35 : decode cX10_cut 35 = .ok (.invokevirtual 116, 3) := by decide +kernel
theorem dX10_cut_38 : decode cX10_cut 38 = .ok (.aload_n 0, 1) := by decide +kernel
theorem dX10_cut_39 : decode cX10_cut 39 = .ok (.getfield 26, 3) := by decide +kernel
theorem dX10_cut_42 : decode cX10_cut 42 = .ok (.invokevirtual 119, 3) := by decide +kernel
theorem dX10_cut_45 : decode cX10_cut 45 = .ok (.invokevirtual 121, 3) := by decide +kernel
theorem dX10_cut_48 : decode cX10_cut 48 = .ok (.aload_n 0, 1) := by decide +kernel
theorem dX10_cut_49 : decode cX10_cut 49 = .ok (.getfield 84, 3) := by decide +kernel
theorem dX10_cut_52 : decode cX10_cut 52 = .ok (.aload_n 0, 1) := by decide +kernel
theorem dX10_cut_53 : decode cX10_cut 53 = .ok (.getfield 94, 3) := by decide +kernel
theorem dX10_cut_56 : decode cX10_cut 56 = .ok (.invokevirtual 125, 3) := by decide +kernel
theorem dX10_cut_59 : decode cX10_cut 59 = .ok (.ireturn, 1) := by decide +kernel
set_option maxRecDepth 20000 in
theorem ggX10_fault_X1_faultKind : GoodIn wsX10_fault wsX1_faultKind := goodIn_r _ [6, 7, 26, 27, 28, 29, 30, 31] (by decide +kernel) (by decide +kernel)
set_option maxRecDepth 20000 in
theorem gX10_fault_X1_faultKind : GoodIn wsX10_fault (wsV RX10 128 RX1 yX1_faultKind wsX1_faultKind) := goodIn_app (goodIn_of _ (by decide +kernel)) ggX10_fault_X1_faultKind
set_option maxRecDepth 20000 in
theorem ggX10_fault_X1_faultPlace : GoodIn wsX10_fault wsX1_faultPlace := goodIn_r _ [11, 12, 26, 27, 28, 29, 30, 31] (by decide +kernel) (by decide +kernel)
set_option maxRecDepth 20000 in
theorem gX10_fault_X1_faultPlace : GoodIn wsX10_fault (wsV RX10 131 RX1 yX1_faultPlace wsX1_faultPlace) := goodIn_app (goodIn_of _ (by decide +kernel)) ggX10_fault_X1_faultPlace
theorem dX10_fault_0 : decode cX10_fault 0 = .ok (.iload_n 1, 1) := by decide +kernel
theorem dX10_fault_1 : decode cX10_fault 1 = .ok (.ifCond .ne 13, 3) := by decide +kernel
theorem dX10_fault_4 : decode cX10_fault 4 = .ok (.aload_n 0, 1) := by decide +kernel
theorem dX10_fault_5 : decode cX10_fault 5 = .ok (.getfield 26, 3) := by decide +kernel
theorem dX10_fault_8 : decode cX10_fault 8 = .ok (.invokevirtual 128, 3) := by decide +kernel
theorem dX10_fault_11 : decode cX10_fault 11 = .ok (.goto 19, 3) := by decide +kernel
theorem dX10_fault_14 : decode cX10_fault 14 = .ok (.iload_n 1, 1) := by decide +kernel
theorem dX10_fault_15 : decode cX10_fault 15 = .ok (.iconst 1, 1) := by decide +kernel
theorem dX10_fault_16 : decode cX10_fault 16 = .ok (.if_icmp .ne 13, 3) := by decide +kernel
theorem dX10_fault_19 : decode cX10_fault 19 = .ok (.aload_n 0, 1) := by decide +kernel
theorem dX10_fault_20 : decode cX10_fault 20 = .ok (.getfield 26, 3) := by decide +kernel
theorem dX10_fault_23 : decode cX10_fault 23 = .ok (.invokevirtual 131, 3) := by decide +kernel
theorem dX10_fault_26 : decode cX10_fault 26 = .ok (.goto 4, 3) := by decide +kernel
theorem dX10_fault_29 : decode cX10_fault 29 = .ok (.iconst (-1), 1) := by decide +kernel
theorem dX10_fault_30 : decode cX10_fault 30 = .ok (.ireturn, 1) := by decide +kernel
set_option maxRecDepth 20000 in
theorem ggX10_take_X6_withCorners : GoodIn wsX10_take wsX6_withCorners := goodIn_r _ [6, 7, 8, 9, 10, 11, 12, 13, 14, 15, 16, 17, 18, 19, 20, 21, 22, 23, 24, 25, 26, 27, 28, 29, 30, 31, 32, 33, 34, 35, 36, 37, 38, 39, 40, 41, 42, 43, 44, 45, 46, 47, 48, 49, 50, 51, 52, 53, 54, 55, 56, 99, 100, 101, 102, 103, 104, 105, 106, 107, 108] (by decide +kernel) (by decide +kernel)
set_option maxRecDepth 20000 in
theorem gX10_take_X6_withCorners : GoodIn wsX10_take (wsV RX10 80 RX6 yX6_withCorners wsX6_withCorners) := goodIn_app (goodIn_of _ (by decide +kernel)) ggX10_take_X6_withCorners
set_option maxRecDepth 20000 in
theorem ggX10_take_X5_hasCut : GoodIn wsX10_take wsX5_hasCut := goodIn_r _ [60, 49, 100, 101, 102, 103, 104, 105, 106, 107, 108] (by decide +kernel) (by decide +kernel)
set_option maxRecDepth 20000 in
theorem gX10_take_X5_hasCut : GoodIn wsX10_take (wsV RX10 134 RX5 yX5_hasCut wsX5_hasCut) := goodIn_app (goodIn_of _ (by decide +kernel)) ggX10_take_X5_hasCut
set_option maxRecDepth 20000 in
theorem ggX10_take_X5_cutAt : GoodIn wsX10_take wsX5_cutAt := goodIn_r _ [64, 23, 65, 58, 59, 10, 60, 49, 100, 101, 102, 103, 104, 105, 106, 107, 108] (by decide +kernel) (by decide +kernel)
set_option maxRecDepth 20000 in
theorem gX10_take_X5_cutAt : GoodIn wsX10_take (wsV RX10 88 RX5 yX5_cutAt wsX5_cutAt) := goodIn_app (goodIn_of _ (by decide +kernel)) ggX10_take_X5_cutAt
set_option maxRecDepth 20000 in
theorem ggX10_take_X10_become : GoodIn wsX10_take wsX10_become := goodIn_r _ [70, 71, 72, 73, 74, 75, 76, 10, 77, 24, 78, 79, 80, 81, 82, 83, 84, 85, 86, 87, 88, 89, 90, 91, 92, 93, 94, 95, 96, 97, 98, 100, 101, 102, 103, 104, 105, 106, 107, 108, 109, 110, 111, 112, 113, 114, 115, 116, 117, 118, 119, 120] (by decide +kernel) (by decide +kernel)
set_option maxRecDepth 20000 in
theorem gX10_take_X10_become : GoodIn wsX10_take (wsV RX10 121 RX10 yX10_become wsX10_become) := goodIn_app (goodIn_of _ (by decide +kernel)) ggX10_take_X10_become
theorem dX10_take_0 : decode cX10_take 0 = .ok (.aload_n 0, 1) := by decide +kernel
theorem dX10_take_1 : decode cX10_take 1 = .ok (.getfield 19, 3) := by decide +kernel
theorem dX10_take_4 : decode cX10_take 4 = .ok (.iload_n 1, 1) := by decide +kernel
theorem dX10_take_5 : decode cX10_take 5 = .ok (.invokevirtual 80, 3) := by decide +kernel
theorem dX10_take_8 : decode cX10_take 8 = .ok (.astore_n 3, 1) := by decide +kernel
theorem dX10_take_9 : decode cX10_take 9 = .ok (.aload_n 3, 1) := by decide +kernel
theorem dX10_take_10 : decode cX10_take 10 = .ok (.ifnull 11, 3) := by decide +kernel
theorem dX10_take_13 : decode cX10_take 13 = .ok (.aload_n 3, 1) := by decide +kernel
theorem dX10_take_14 : decode cX10_take 14 = .ok (.iload_n 2, 1) := by decide +kernel
theorem dX10_take_15 : decode cX10_take 15 = .ok (.invokevirtual 134, 3) := by decide +kernel
theorem dX10_take_18 : decode cX10_take 18 = .ok (.ifCond .ne 6, 3) := by decide +kernel
theorem dX10_take_21 : decode cX10_take 21 = .ok (.bipush (-2), 2) := by decide +kernel
theorem dX10_take_23 : decode cX10_take 23 = .ok (.ireturn, 1) := by decide +kernel
theorem dX10_take_24 : decode cX10_take 24 = .ok (.aload_n 0, 1) := by decide +kernel
theorem dX10_take_25 : decode cX10_take 25 = .ok (.aload_n 3, 1) := by decide +kernel
theorem dX10_take_26 : decode cX10_take 26 = .ok (.aload_n 3, 1) := by decide +kernel
theorem dX10_take_27 : decode cX10_take 27 = .ok (.iload_n 2, 1) := by decide +kernel
theorem dX10_take_28 : decode cX10_take 28 = .ok (.invokevirtual 88, 3) := by decide +kernel
theorem dX10_take_31 : decode cX10_take 31 = .ok (.invokevirtual 121, 3) := by decide +kernel
theorem dX10_take_34 : decode cX10_take 34 = .ok (.iload_n 2, 1) := by decide +kernel
theorem dX10_take_35 : decode cX10_take 35 = .ok (.ireturn, 1) := by decide +kernel
set_option maxRecDepth 20000 in
theorem ggX10_told_X5_corners : GoodIn wsX10_told wsX5_corners := goodIn_r _ [8, 9, 39, 40, 41, 42, 43, 44, 45, 46, 47] (by decide +kernel) (by decide +kernel)
set_option maxRecDepth 20000 in
theorem gX10_told_X5_corners : GoodIn wsX10_told (wsV RX10 138 RX5 yX5_corners wsX5_corners) := goodIn_app (goodIn_of _ (by decide +kernel)) ggX10_told_X5_corners
set_option maxRecDepth 20000 in
theorem ggX10_told_X5_numberOf : GoodIn wsX10_told wsX5_numberOf := goodIn_r _ [13, 14, 15, 39, 40, 41, 42, 43, 44, 45, 46, 47] (by decide +kernel) (by decide +kernel)
set_option maxRecDepth 20000 in
theorem gX10_told_X5_numberOf : GoodIn wsX10_told (wsV RX10 125 RX5 yX5_numberOf wsX5_numberOf) := goodIn_app (goodIn_of _ (by decide +kernel)) ggX10_told_X5_numberOf
set_option maxRecDepth 20000 in
theorem ggX10_told_X5_cutCount : GoodIn wsX10_told wsX5_cutCount := goodIn_r _ [19, 14, 39, 40, 41, 42, 43, 44, 45, 46, 47] (by decide +kernel) (by decide +kernel)
set_option maxRecDepth 20000 in
theorem gX10_told_X5_cutCount : GoodIn wsX10_told (wsV RX10 141 RX5 yX5_cutCount wsX5_cutCount) := goodIn_app (goodIn_of _ (by decide +kernel)) ggX10_told_X5_cutCount
set_option maxRecDepth 20000 in
theorem ggX10_told_X2_size : GoodIn wsX10_told wsX2_size := goodIn_r _ [24, 25, 48, 49] (by decide +kernel) (by decide +kernel)
set_option maxRecDepth 20000 in
theorem gX10_told_X2_size : GoodIn wsX10_told (wsV RX10 144 RX2 yX2_size wsX2_size) := goodIn_app (goodIn_of _ (by decide +kernel)) ggX10_told_X2_size
theorem dX10_told_0 : decode cX10_told 0 = .ok (.iload_n 1, 1) := by decide +kernel
theorem dX10_told_1 : decode cX10_told 1 = .ok (.tableswitch 67 0 3 #[31, 39, 51, 59], 31) := by decide +kernel
theorem dX10_told_32 : decode cX10_told 32 = .ok (.aload_n 0, 1) := by decide +kernel
theorem dX10_told_33 : decode cX10_told 33 = .ok (.getfield 84, 3) := by decide +kernel
theorem dX10_told_36 : decode cX10_told 36 = .ok (.invokevirtual 138, 3) := by decide +kernel
theorem dX10_told_39 : decode cX10_told 39 = .ok (.ireturn, 1) := by decide +kernel
theorem dX10_told_40 : decode cX10_told 40 = .ok (.aload_n 0, 1) := by decide +kernel
theorem dX10_told_41 : decode cX10_told 41 = .ok (.getfield 84, 3) := by decide +kernel
theorem dX10_told_44 : decode cX10_told 44 = .ok (.aload_n 0, 1) := by decide +kernel
theorem dX10_told_45 : decode cX10_told 45 = .ok (.getfield 94, 3) := by decide +kernel
theorem dX10_told_48 : decode cX10_told 48 = .ok (.invokevirtual 125, 3) := by decide +kernel
theorem dX10_told_51 : decode cX10_told 51 = .ok (.ireturn, 1) := by decide +kernel
theorem dX10_told_52 : decode cX10_told 52 = .ok (.aload_n 0, 1) := by decide +kernel
theorem dX10_told_53 : decode cX10_told 53 = .ok (.getfield 84, 3) := by decide +kernel
theorem dX10_told_56 : decode cX10_told 56 = .ok (.invokevirtual 141, 3) := by decide +kernel
theorem dX10_told_59 : decode cX10_told 59 = .ok (.ireturn, 1) := by decide +kernel
theorem dX10_told_60 : decode cX10_told 60 = .ok (.aload_n 0, 1) := by decide +kernel
theorem dX10_told_61 : decode cX10_told 61 = .ok (.getfield 54, 3) := by decide +kernel
theorem dX10_told_64 : decode cX10_told 64 = .ok (.invokevirtual 144, 3) := by decide +kernel
theorem dX10_told_67 : decode cX10_told 67 = .ok (.ireturn, 1) := by decide +kernel
theorem dX10_told_68 : decode cX10_told 68 = .ok (.iconst (-1), 1) := by decide +kernel
theorem dX10_told_69 : decode cX10_told 69 = .ok (.ireturn, 1) := by decide +kernel
set_option maxRecDepth 20000 in
theorem ggX10_triangle_X5_corners : GoodIn wsX10_triangle wsX5_corners := goodIn_r _ [8, 9, 69, 70, 71, 72, 73, 74, 75, 76, 77] (by decide +kernel) (by decide +kernel)
set_option maxRecDepth 20000 in
theorem gX10_triangle_X5_corners : GoodIn wsX10_triangle (wsV RX10 138 RX5 yX5_corners wsX5_corners) := goodIn_app (goodIn_of _ (by decide +kernel)) ggX10_triangle_X5_corners
set_option maxRecDepth 20000 in
theorem ggX10_triangle_X9_gather : GoodIn wsX10_triangle wsX9_gather := goodIn_r _ [14, 15, 16, 5, 6, 7, 8, 9, 17, 18, 19, 20, 21, 22, 23, 24, 25, 26, 27, 28, 29, 30, 31, 32, 33, 34, 35, 36, 37, 38, 39, 40, 41, 42, 43, 44, 45, 46, 47, 48, 49, 13, 50, 51, 78, 79, 80, 81, 82, 83, 84, 69, 70, 71, 72, 73, 74, 75, 76, 77] (by decide +kernel) (by decide +kernel)
set_option maxRecDepth 20000 in
theorem gX10_triangle_X9_gather : GoodIn wsX10_triangle (wsV RX10 145 RX9 yX9_gather wsX9_gather) := goodIn_app (goodIn_of _ (by decide +kernel)) ggX10_triangle_X9_gather
set_option maxRecDepth 20000 in
theorem ggX10_triangle_X9_cornerOf : GoodIn wsX10_triangle wsX9_cornerOf := goodIn_r _ [55, 15, 51, 78, 79, 80, 81, 82, 83, 84] (by decide +kernel) (by decide +kernel)
set_option maxRecDepth 20000 in
theorem gX10_triangle_X9_cornerOf : GoodIn wsX10_triangle (wsV RX10 148 RX9 yX9_cornerOf wsX9_cornerOf) := goodIn_app (goodIn_of _ (by decide +kernel)) ggX10_triangle_X9_cornerOf
theorem dX10_triangle_0 : decode cX10_triangle 0 = .ok (.iload_n 1, 1) := by decide +kernel
theorem dX10_triangle_1 : decode cX10_triangle 1 = .ok (.ifCond .lt 25, 3) := by decide +kernel
theorem dX10_triangle_4 : decode cX10_triangle 4 = .ok (.iload_n 1, 1) := by decide +kernel
theorem dX10_triangle_5 : decode cX10_triangle 5 = .ok (.aload_n 0, 1) := by decide +kernel
theorem dX10_triangle_6 : decode cX10_triangle 6 = .ok (.getfield 84, 3) := by decide +kernel
theorem dX10_triangle_9 : decode cX10_triangle 9 = .ok (.invokevirtual 138, 3) := by decide +kernel
theorem dX10_triangle_12 : decode cX10_triangle 12 = .ok (.iconst 2, 1) := by decide +kernel
theorem dX10_triangle_13 : decode cX10_triangle 13 = .ok (.isub, 1) := by decide +kernel
theorem dX10_triangle_14 : decode cX10_triangle 14 = .ok (.if_icmp .ge 12, 3) := by decide +kernel
theorem dX10_triangle_17 : decode cX10_triangle 17 = .ok (.iload_n 2, 1) := by decide +kernel
theorem dX10_triangle_18 : decode cX10_triangle 18 = .ok (.ifCond .lt 8, 3) := by decide +kernel
theorem dX10_triangle_21 : decode cX10_triangle 21 = .ok (.iload_n 2, 1) := by decide +kernel
theorem dX10_triangle_22 : decode cX10_triangle 22 = .ok (.iconst 2, 1) := by decide +kernel
theorem dX10_triangle_23 : decode cX10_triangle 23 = .ok (.if_icmp .le 6, 3) := by decide +kernel
theorem dX10_triangle_26 : decode cX10_triangle 26 = .ok (.bipush (-2), 2) := by decide +kernel
theorem dX10_triangle_28 : decode cX10_triangle 28 = .ok (.ireturn, 1) := by decide +kernel
theorem dX10_triangle_29 : decode cX10_triangle 29 = .ok (.aload_n 0, 1) := by decide +kernel
theorem dX10_triangle_30 : decode cX10_triangle 30 = .ok (.getfield 33, 3) := by decide +kernel
theorem dX10_triangle_33 : decode cX10_triangle 33 = .ok (.aload_n 0, 1) := by decide +kernel
theorem dX10_triangle_34 : decode cX10_triangle 34 = .ok (.getfield 84, 3) := by decide +kernel
theorem dX10_triangle_37 : decode cX10_triangle 37 = .ok (.aload_n 0, 1) := by decide +kernel
theorem dX10_triangle_38 : decode cX10_triangle 38 = .ok (.getfield 94, 3) := by decide +kernel
theorem dX10_triangle_41 : decode cX10_triangle 41 = .ok (.invokevirtual 145, 3) := by decide +kernel
theorem dX10_triangle_44 : decode cX10_triangle 44 = .ok (.aload_n 0, 1) := by decide +kernel
theorem dX10_triangle_45 : decode cX10_triangle 45 = .ok (.getfield 33, 3) := by decide +kernel
theorem dX10_triangle_48 : decode cX10_triangle 48 = .ok (.iload_n 1, 1) := by decide +kernel
theorem dX10_triangle_49 : decode cX10_triangle 49 = .ok (.iload_n 2, 1) := by decide +kernel
theorem dX10_triangle_50 : decode cX10_triangle 50 = .ok (.invokevirtual 148, 3) := by decide +kernel
theorem dX10_triangle_53 : decode cX10_triangle 53 = .ok (.ireturn, 1) := by decide +kernel
set_option maxRecDepth 20000 in
theorem ggX10_entry_X10_areCorners : GoodIn wsX10_entry wsX10_areCorners := goodIn_r _ [7, 1, 8, 9, 10, 11, 12, 13, 38, 39, 40, 41, 42, 43, 44, 45, 46, 47, 48, 49, 50, 51, 52, 53, 54, 55, 56, 57, 58, 59] (by decide +kernel) (by decide +kernel)
set_option maxRecDepth 20000 in
theorem gX10_entry_X10_areCorners : GoodIn wsX10_entry (wsV RX10 152 RX10 yX10_areCorners wsX10_areCorners) := goodIn_app (goodIn_of _ (by decide +kernel)) ggX10_entry_X10_areCorners
set_option maxRecDepth 20000 in
theorem ggX10_entry_X5_entryOf : GoodIn wsX10_entry wsX5_entryOf := goodIn_r _ [17, 18, 19, 20, 21, 22, 23, 24, 25, 26, 27, 11, 28, 29, 30, 9, 10, 12, 13, 31, 32, 33, 34, 35, 36, 37, 51, 52, 53, 54, 55, 56, 57, 58, 59] (by decide +kernel) (by decide +kernel)
set_option maxRecDepth 20000 in
theorem gX10_entry_X5_entryOf : GoodIn wsX10_entry (wsV RX10 156 RX5 yX5_entryOf wsX5_entryOf) := goodIn_app (goodIn_of _ (by decide +kernel)) ggX10_entry_X5_entryOf
theorem dX10_entry_0 : decode cX10_entry 0 = .ok (.aload_n 0, 1) := by decide +kernel
theorem dX10_entry_1 : decode cX10_entry 1 = .ok (.iload_n 1, 1) := by decide +kernel
theorem dX10_entry_2 : decode cX10_entry 2 = .ok (.iload_n 2, 1) := by decide +kernel
theorem dX10_entry_3 : decode cX10_entry 3 = .ok (.invokevirtual 152, 3) := by decide +kernel
theorem dX10_entry_6 : decode cX10_entry 6 = .ok (.ifCond .eq 19, 3) := by decide +kernel
theorem dX10_entry_9 : decode cX10_entry 9 = .ok (.aload_n 0, 1) := by decide +kernel
theorem dX10_entry_10 : decode cX10_entry 10 = .ok (.getfield 84, 3) := by decide +kernel
theorem dX10_entry_13 : decode cX10_entry 13 = .ok (.aload_n 0, 1) := by decide +kernel
theorem dX10_entry_14 : decode cX10_entry 14 = .ok (.getfield 94, 3) := by decide +kernel
theorem dX10_entry_17 : decode cX10_entry 17 = .ok (.iload_n 1, 1) := by decide +kernel
theorem dX10_entry_18 : decode cX10_entry 18 = .ok (.iload_n 2, 1) := by decide +kernel
theorem dX10_entry_19 : decode cX10_entry 19 = .ok (.invokevirtual 156, 3) := by decide +kernel
theorem dX10_entry_22 : decode cX10_entry 22 = .ok (.goto 5, 3) := by decide +kernel
theorem dX10_entry_25 : decode cX10_entry 25 = .ok (.bipush (-2), 2) := by decide +kernel
theorem dX10_entry_27 : decode cX10_entry 27 = .ok (.ireturn, 1) := by decide +kernel
set_option maxRecDepth 20000 in
theorem ggX10_row_X5_hasCorner : GoodIn wsX10_row wsX5_hasCorner := goodIn_r _ [7, 8, 35, 36, 37, 38, 39, 40, 41, 42, 43] (by decide +kernel) (by decide +kernel)
set_option maxRecDepth 20000 in
theorem gX10_row_X5_hasCorner : GoodIn wsX10_row (wsV RX10 160 RX5 yX5_hasCorner wsX5_hasCorner) := goodIn_app (goodIn_of _ (by decide +kernel)) ggX10_row_X5_hasCorner
set_option maxRecDepth 20000 in
theorem ggX10_row_X5_trianglesAt : GoodIn wsX10_row wsX5_trianglesAt := goodIn_r _ [12, 13, 14, 4, 5, 6, 7, 8, 15, 16, 17, 18, 19, 20, 21, 35, 36, 37, 38, 39, 40, 41, 42, 43] (by decide +kernel) (by decide +kernel)
set_option maxRecDepth 20000 in
theorem gX10_row_X5_trianglesAt : GoodIn wsX10_row (wsV RX10 163 RX5 yX5_trianglesAt wsX5_trianglesAt) := goodIn_app (goodIn_of _ (by decide +kernel)) ggX10_row_X5_trianglesAt
theorem dX10_row_0 : decode cX10_row 0 = .ok (.aload_n 0, 1) := by decide +kernel
theorem dX10_row_1 : decode cX10_row 1 = .ok (.getfield 84, 3) := by decide +kernel
theorem dX10_row_4 : decode cX10_row 4 = .ok (.iload_n 1, 1) := by decide +kernel
theorem dX10_row_5 : decode cX10_row 5 = .ok (.invokevirtual 160, 3) := by decide +kernel
theorem dX10_row_8 : decode cX10_row 8 = .ok (.ifCond .eq 18, 3) := by decide +kernel
theorem dX10_row_11 : decode cX10_row 11 = .ok (.aload_n 0, 1) := by decide +kernel
theorem dX10_row_12 : decode cX10_row 12 = .ok (.getfield 84, 3) := by decide +kernel
theorem dX10_row_15 : decode cX10_row 15 = .ok (.aload_n 0, 1) := by decide +kernel
theorem dX10_row_16 : decode cX10_row 16 = .ok (.getfield 94, 3) := by decide +kernel
theorem dX10_row_19 : decode cX10_row 19 = .ok (.iload_n 1, 1) := by decide +kernel
theorem dX10_row_20 : decode cX10_row 20 = .ok (.invokevirtual 163, 3) := by decide +kernel
theorem dX10_row_23 : decode cX10_row 23 = .ok (.goto 5, 3) := by decide +kernel
theorem dX10_row_26 : decode cX10_row 26 = .ok (.bipush (-2), 2) := by decide +kernel
theorem dX10_row_28 : decode cX10_row 28 = .ok (.ireturn, 1) := by decide +kernel
set_option maxRecDepth 20000 in
theorem ggX10_way_X10_areCorners : GoodIn wsX10_way wsX10_areCorners := goodIn_r _ [8, 1, 9, 10, 11, 12, 13, 14, 105, 106, 107, 108, 109, 110, 111, 112, 113, 114, 115, 116, 117, 118, 119, 120, 121, 122, 123, 124, 125, 126] (by decide +kernel) (by decide +kernel)
set_option maxRecDepth 20000 in
theorem gX10_way_X10_areCorners : GoodIn wsX10_way (wsV RX10 152 RX10 yX10_areCorners wsX10_areCorners) := goodIn_app (goodIn_of _ (by decide +kernel)) ggX10_way_X10_areCorners
set_option maxRecDepth 20000 in
theorem ggX10_way_X5_hasCorner : GoodIn wsX10_way wsX5_hasCorner := goodIn_r _ [13, 14, 118, 119, 120, 121, 122, 123, 124, 125, 126] (by decide +kernel) (by decide +kernel)
set_option maxRecDepth 20000 in
theorem gX10_way_X5_hasCorner : GoodIn wsX10_way (wsV RX10 160 RX5 yX5_hasCorner wsX5_hasCorner) := goodIn_app (goodIn_of _ (by decide +kernel)) ggX10_way_X5_hasCorner
set_option maxRecDepth 20000 in
theorem ggX10_way_X5_entryOf : GoodIn wsX10_way wsX5_entryOf := goodIn_r _ [18, 19, 20, 21, 22, 23, 24, 25, 26, 27, 28, 12, 29, 30, 31, 10, 11, 13, 14, 32, 33, 34, 35, 36, 37, 38, 118, 119, 120, 121, 122, 123, 124, 125, 126] (by decide +kernel) (by decide +kernel)
set_option maxRecDepth 20000 in
theorem gX10_way_X5_entryOf : GoodIn wsX10_way (wsV RX10 156 RX5 yX5_entryOf wsX5_entryOf) := goodIn_app (goodIn_of _ (by decide +kernel)) ggX10_way_X5_entryOf
set_option maxRecDepth 20000 in
theorem ggX10_way_X5_ahead : GoodIn wsX10_way wsX5_ahead := goodIn_r _ [42, 14, 118, 119, 120, 121, 122, 123, 124, 125, 126] (by decide +kernel) (by decide +kernel)
set_option maxRecDepth 20000 in
theorem gX10_way_X5_ahead : GoodIn wsX10_way (wsV RX10 166 RX5 yX5_ahead wsX5_ahead) := goodIn_app (goodIn_of _ (by decide +kernel)) ggX10_way_X5_ahead
set_option maxRecDepth 20000 in
theorem ggX10_way_X9_gather : GoodIn wsX10_way wsX9_gather := goodIn_r _ [47, 48, 49, 50, 51, 12, 52, 14, 53, 54, 55, 56, 57, 58, 59, 60, 61, 62, 21, 63, 64, 65, 66, 67, 68, 31, 10, 11, 13, 69, 70, 71, 72, 73, 74, 75, 76, 77, 78, 79, 80, 46, 81, 82, 127, 128, 129, 130, 131, 132, 133, 118, 119, 120, 121, 122, 123, 124, 125, 126] (by decide +kernel) (by decide +kernel)
set_option maxRecDepth 20000 in
theorem gX10_way_X9_gather : GoodIn wsX10_way (wsV RX10 145 RX9 yX9_gather wsX9_gather) := goodIn_app (goodIn_of _ (by decide +kernel)) ggX10_way_X9_gather
set_option maxRecDepth 20000 in
theorem ggX10_way_X9_onWay : GoodIn wsX10_way wsX9_onWay := goodIn_r _ [86, 87, 88, 89, 90, 91, 92, 40, 41, 12, 42, 14, 93, 94, 95, 46, 96, 48, 49, 50, 51, 52, 97, 98, 99, 100, 101, 102, 103, 104, 82, 127, 128, 129, 130, 131, 132, 133, 118, 119, 120, 121, 122, 123, 124, 125, 126] (by decide +kernel) (by decide +kernel)
set_option maxRecDepth 20000 in
theorem gX10_way_X9_onWay : GoodIn wsX10_way (wsV RX10 169 RX9 yX9_onWay wsX9_onWay) := goodIn_app (goodIn_of _ (by decide +kernel)) ggX10_way_X9_onWay
theorem dX10_way_0 : decode cX10_way 0 = .ok (.aload_n 0, 1) := by decide +kernel
theorem dX10_way_1 : decode cX10_way 1 = .ok (.iload_n 1, 1) := by decide +kernel
theorem dX10_way_2 : decode cX10_way 2 = .ok (.iload_n 2, 1) := by decide +kernel
theorem dX10_way_3 : decode cX10_way 3 = .ok (.invokevirtual 152, 3) := by decide +kernel
theorem dX10_way_6 : decode cX10_way 6 = .ok (.ifCond .eq 15, 3) := by decide +kernel
theorem dX10_way_9 : decode cX10_way 9 = .ok (.aload_n 0, 1) := by decide +kernel
theorem dX10_way_10 : decode cX10_way 10 = .ok (.getfield 84, 3) := by decide +kernel
theorem dX10_way_13 : decode cX10_way 13 = .ok (.iload 4, 2) := by decide +kernel
theorem dX10_way_15 : decode cX10_way 15 = .ok (.invokevirtual 160, 3) := by decide +kernel
theorem dX10_way_18 : decode cX10_way 18 = .ok (.ifCond .ne 6, 3) := by decide +kernel
theorem dX10_way_21 : decode cX10_way 21 = .ok (.bipush (-2), 2) := by decide +kernel
theorem dX10_way_23 : decode cX10_way 23 = .ok (.ireturn, 1) := by decide +kernel
theorem dX10_way_24 : decode cX10_way 24 = .ok (.iload_n 3, 1) := by decide +kernel
theorem dX10_way_25 : decode cX10_way 25 = .ok (.ifCond .lt 20, 3) := by decide +kernel
theorem dX10_way_28 : decode cX10_way 28 = .ok (.iload_n 3, 1) := by decide +kernel
theorem dX10_way_29 : decode cX10_way 29 = .ok (.aload_n 0, 1) := by decide +kernel
theorem dX10_way_30 : decode cX10_way 30 = .ok (.getfield 84, 3) := by decide +kernel
theorem dX10_way_33 : decode cX10_way 33 = .ok (.aload_n 0, 1) := by decide +kernel
theorem dX10_way_34 : decode cX10_way 34 = .ok (.getfield 94, 3) := by decide +kernel
theorem dX10_way_37 : decode cX10_way 37 = .ok (.iload_n 1, 1) := by decide +kernel
theorem dX10_way_38 : decode cX10_way 38 = .ok (.iload_n 2, 1) := by decide +kernel
theorem dX10_way_39 : decode cX10_way 39 = .ok (.invokevirtual 156, 3) := by decide +kernel
theorem dX10_way_42 : decode cX10_way 42 = .ok (.if_icmp .lt 6, 3) := by decide +kernel
theorem dX10_way_45 : decode cX10_way 45 = .ok (.bipush (-2), 2) := by decide +kernel
theorem dX10_way_47 : decode cX10_way 47 = .ok (.ireturn, 1) := by decide +kernel
theorem dX10_way_48 : decode cX10_way 48 = .ok (.aload_n 0, 1) := by decide +kernel
theorem dX10_way_49 : decode cX10_way 49 = .ok (.getfield 84, 3) := by decide +kernel
theorem dX10_way_52 : decode cX10_way 52 = .ok (.iload_n 1, 1) := by decide +kernel
theorem dX10_way_53 : decode cX10_way 53 = .ok (.iload 4, 2) := by decide +kernel
theorem dX10_way_55 : decode cX10_way 55 = .ok (.invokevirtual 166, 3) := by decide +kernel
theorem dX10_way_58 : decode cX10_way 58 = .ok (.iconst 1, 1) := by decide +kernel
theorem dX10_way_59 : decode cX10_way 59 = .ok (.isub, 1) := by decide +kernel
theorem dX10_way_60 : decode cX10_way 60 = .ok (.istore 5, 2) := by decide +kernel
theorem dX10_way_62 : decode cX10_way 62 = .ok (.iload 5, 2) := by decide +kernel
theorem dX10_way_64 : decode cX10_way 64 = .ok (.ifCond .lt 19, 3) := by decide +kernel
theorem dX10_way_67 : decode cX10_way 67 = .ok (.iload 5, 2) := by decide +kernel
theorem dX10_way_69 : decode cX10_way 69 = .ok (.aload_n 0, 1) := by decide +kernel
theorem dX10_way_70 : decode cX10_way 70 = .ok (.getfield 84, 3) := by decide +kernel
theorem dX10_way_73 : decode cX10_way 73 = .ok (.iload_n 1, 1) := by decide +kernel
theorem dX10_way_74 : decode cX10_way 74 = .ok (.iload_n 2, 1) := by decide +kernel
theorem dX10_way_75 : decode cX10_way 75 = .ok (.invokevirtual 166, 3) := by decide +kernel
theorem dX10_way_78 : decode cX10_way 78 = .ok (.iconst 1, 1) := by decide +kernel
theorem dX10_way_79 : decode cX10_way 79 = .ok (.isub, 1) := by decide +kernel
theorem dX10_way_80 : decode cX10_way 80 = .ok (.if_icmp .lt 5, 3) := by decide +kernel
theorem dX10_way_83 : decode cX10_way 83 = .ok (.iconst (-1), 1) := by decide +kernel
theorem dX10_way_84 : decode cX10_way 84 = .ok (.ireturn, 1) := by decide +kernel
theorem dX10_way_85 : decode cX10_way 85 = .ok (.aload_n 0, 1) := by decide +kernel
theorem dX10_way_86 : decode cX10_way 86 = .ok (.getfield 33, 3) := by decide +kernel
theorem dX10_way_89 : decode cX10_way 89 = .ok (.aload_n 0, 1) := by decide +kernel
theorem dX10_way_90 : decode cX10_way 90 = .ok (.getfield 84, 3) := by decide +kernel
theorem dX10_way_93 : decode cX10_way 93 = .ok (.aload_n 0, 1) := by decide +kernel
theorem dX10_way_94 : decode cX10_way 94 = .ok (.getfield 94, 3) := by decide +kernel
theorem dX10_way_97 : decode cX10_way 97 = .ok (.invokevirtual 145, 3) := by decide +kernel
theorem dX10_way_100 : decode cX10_way 100 = .ok (.aload_n 0, 1) := by decide +kernel
theorem dX10_way_101 : decode cX10_way 101 = .ok (.getfield 33, 3) := by decide +kernel
theorem dX10_way_104 : decode cX10_way 104 = .ok (.aload_n 0, 1) := by decide +kernel
theorem dX10_way_105 : decode cX10_way 105 = .ok (.getfield 84, 3) := by decide +kernel
theorem dX10_way_108 : decode cX10_way 108 = .ok (.iload_n 1, 1) := by decide +kernel
theorem dX10_way_109 : decode cX10_way 109 = .ok (.iload_n 2, 1) := by decide +kernel
theorem dX10_way_110 : decode cX10_way 110 = .ok (.iload_n 3, 1) := by decide +kernel
theorem dX10_way_111 : decode cX10_way 111 = .ok (.iload 5, 2) := by decide +kernel
theorem dX10_way_113 : decode cX10_way 113 = .ok (.invokevirtual 169, 3) := by decide +kernel
theorem dX10_way_116 : decode cX10_way 116 = .ok (.ireturn, 1) := by decide +kernel
set_option maxRecDepth 20000 in
theorem ggX10_flip_X10_areCorners : GoodIn wsX10_flip wsX10_areCorners := goodIn_r _ [7, 1, 8, 9, 10, 11, 12, 13, 40, 41, 42, 43, 44, 45, 46, 47, 48, 49, 50, 51, 52, 53, 54, 55, 56, 57, 58, 59, 60, 61] (by decide +kernel) (by decide +kernel)
set_option maxRecDepth 20000 in
theorem gX10_flip_X10_areCorners : GoodIn wsX10_flip (wsV RX10 152 RX10 yX10_areCorners wsX10_areCorners) := goodIn_app (goodIn_of _ (by decide +kernel)) ggX10_flip_X10_areCorners
set_option maxRecDepth 20000 in
theorem ggX10_flip_X5_lineOf : GoodIn wsX10_flip wsX5_lineOf := goodIn_r _ [17, 18, 19, 9, 10, 11, 12, 13, 53, 54, 55, 56, 57, 58, 59, 60, 61] (by decide +kernel) (by decide +kernel)
set_option maxRecDepth 20000 in
theorem gX10_flip_X5_lineOf : GoodIn wsX10_flip (wsV RX10 173 RX5 yX5_lineOf wsX5_lineOf) := goodIn_app (goodIn_of _ (by decide +kernel)) ggX10_flip_X5_lineOf
set_option maxRecDepth 20000 in
theorem ggX10_flip_X5_has : GoodIn wsX10_flip wsX5_has := goodIn_r _ [23, 24, 25, 26, 11, 27, 28, 53, 54, 55, 56, 57, 58, 59, 60, 61] (by decide +kernel) (by decide +kernel)
set_option maxRecDepth 20000 in
theorem gX10_flip_X5_has : GoodIn wsX10_flip (wsV RX10 176 RX5 yX5_has wsX5_has) := goodIn_app (goodIn_of _ (by decide +kernel)) ggX10_flip_X5_has
set_option maxRecDepth 20000 in
theorem ggX10_flip_X5_otherLine : GoodIn wsX10_flip wsX5_otherLine := goodIn_r _ [32, 28, 33, 53, 54, 55, 56, 57, 58, 59, 60, 61] (by decide +kernel) (by decide +kernel)
set_option maxRecDepth 20000 in
theorem gX10_flip_X5_otherLine : GoodIn wsX10_flip (wsV RX10 179 RX5 yX5_otherLine wsX5_otherLine) := goodIn_app (goodIn_of _ (by decide +kernel)) ggX10_flip_X5_otherLine
set_option maxRecDepth 20000 in
theorem ggX10_flip_X5_pairOf : GoodIn wsX10_flip wsX5_pairOf := goodIn_r _ [37, 38, 39, 24, 25, 26, 11, 27, 28, 53, 54, 55, 56, 57, 58, 59, 60, 61] (by decide +kernel) (by decide +kernel)
set_option maxRecDepth 20000 in
theorem gX10_flip_X5_pairOf : GoodIn wsX10_flip (wsV RX10 182 RX5 yX5_pairOf wsX5_pairOf) := goodIn_app (goodIn_of _ (by decide +kernel)) ggX10_flip_X5_pairOf
theorem dX10_flip_0 : decode cX10_flip 0 = .ok (.aload_n 0, 1) := by decide +kernel
theorem dX10_flip_1 : decode cX10_flip 1 = .ok (.iload_n 1, 1) := by decide +kernel
theorem dX10_flip_2 : decode cX10_flip 2 = .ok (.iload_n 2, 1) := by decide +kernel
theorem dX10_flip_3 : decode cX10_flip 3 = .ok (.invokevirtual 152, 3) := by decide +kernel
theorem dX10_flip_6 : decode cX10_flip 6 = .ok (.ifCond .ne 6, 3) := by decide +kernel
theorem dX10_flip_9 : decode cX10_flip 9 = .ok (.bipush (-2), 2) := by decide +kernel
theorem dX10_flip_11 : decode cX10_flip 11 = .ok (.ireturn, 1) := by decide +kernel
theorem dX10_flip_12 : decode cX10_flip 12 = .ok (.aload_n 0, 1) := by decide +kernel
theorem dX10_flip_13 : decode cX10_flip 13 = .ok (.getfield 84, 3) := by decide +kernel
theorem dX10_flip_16 : decode cX10_flip 16 = .ok (.iload_n 1, 1) := by decide +kernel
theorem dX10_flip_17 : decode cX10_flip 17 = .ok (.iload_n 2, 1) := by decide +kernel
theorem dX10_flip_18 : decode cX10_flip 18 = .ok (.invokevirtual 173, 3) := by decide +kernel
theorem dX10_flip_21 : decode cX10_flip 21 = .ok (.istore_n 3, 1) := by decide +kernel
theorem dX10_flip_22 : decode cX10_flip 22 = .ok (.aload_n 0, 1) := by decide +kernel
theorem dX10_flip_23 : decode cX10_flip 23 = .ok (.getfield 84, 3) := by decide +kernel
theorem dX10_flip_26 : decode cX10_flip 26 = .ok (.aload_n 0, 1) := by decide +kernel
theorem dX10_flip_27 : decode cX10_flip 27 = .ok (.getfield 94, 3) := by decide +kernel
theorem dX10_flip_30 : decode cX10_flip 30 = .ok (.iload_n 3, 1) := by decide +kernel
theorem dX10_flip_31 : decode cX10_flip 31 = .ok (.invokevirtual 176, 3) := by decide +kernel
theorem dX10_flip_34 : decode cX10_flip 34 = .ok (.ifCond .ne 5, 3) := by decide +kernel
theorem dX10_flip_37 : decode cX10_flip 37 = .ok (.iconst (-1), 1) := by decide +kernel
theorem dX10_flip_38 : decode cX10_flip 38 = .ok (.ireturn, 1) := by decide +kernel
theorem dX10_flip_39 : decode cX10_flip 39 = .ok (.aload_n 0, 1) := by decide +kernel
theorem dX10_flip_40 : decode cX10_flip 40 = .ok (.getfield 84, 3) := by decide +kernel
theorem dX10_flip_43 : decode cX10_flip 43 = .ok (.aload_n 0, 1) := by decide +kernel
theorem dX10_flip_44 : decode cX10_flip 44 = .ok (.getfield 94, 3) := by decide +kernel
theorem dX10_flip_47 : decode cX10_flip 47 = .ok (.iload_n 3, 1) := by decide +kernel
theorem dX10_flip_48 : decode cX10_flip 48 = .ok (.invokevirtual 179, 3) := by decide +kernel
theorem dX10_flip_51 : decode cX10_flip 51 = .ok (.istore 4, 2) := by decide +kernel
theorem dX10_flip_53 : decode cX10_flip 53 = .ok (.aload_n 0, 1) := by decide +kernel
theorem dX10_flip_54 : decode cX10_flip 54 = .ok (.aload_n 0, 1) := by decide +kernel
theorem dX10_flip_55 : decode cX10_flip 55 = .ok (.getfield 94, 3) := by decide +kernel
theorem dX10_flip_58 : decode cX10_flip 58 = .ok (.iconst 1, 1) := by decide +kernel
theorem dX10_flip_59 : decode cX10_flip 59 = .ok (.iload_n 3, 1) := by decide +kernel
theorem dX10_flip_60 : decode cX10_flip 60 = .ok (.ishl, 1) := by decide +kernel
theorem dX10_flip_61 : decode cX10_flip 61 = .ok (.iconst (-1), 1) := by decide +kernel
theorem dX10_flip_62 : decode cX10_flip 62 = .ok (.ixor, 1) := by decide +kernel
theorem dX10_flip_63 : decode cX10_flip 63 = .ok (.iand, 1) := by decide +kernel
theorem dX10_flip_64 : decode cX10_flip 64 = .ok (.iconst 1, 1) := by decide +kernel
theorem dX10_flip_65 : decode cX10_flip 65 = .ok (.iload 4, 2) := by decide +kernel
theorem dX10_flip_67 : decode cX10_flip 67 = .ok (.ishl, 1) := by decide +kernel
theorem dX10_flip_68 : decode cX10_flip 68 = .ok (.ior, 1) := by decide +kernel
theorem dX10_flip_69 : decode cX10_flip 69 = .ok (.putfield 94, 3) := by decide +kernel
theorem dX10_flip_72 : decode cX10_flip 72 = .ok (.aload_n 0, 1) := by decide +kernel
theorem dX10_flip_73 : decode cX10_flip 73 = .ok (.getfield 84, 3) := by decide +kernel
theorem dX10_flip_76 : decode cX10_flip 76 = .ok (.iload 4, 2) := by decide +kernel
theorem dX10_flip_78 : decode cX10_flip 78 = .ok (.invokevirtual 182, 3) := by decide +kernel
theorem dX10_flip_81 : decode cX10_flip 81 = .ok (.ireturn, 1) := by decide +kernel
set_option maxRecDepth 20000 in
theorem ggX10_fewest_X5_hasCut : GoodIn wsX10_fewest wsX5_hasCut := goodIn_r _ [8, 9, 85, 86, 87, 88, 89, 90, 91, 92, 93] (by decide +kernel) (by decide +kernel)
set_option maxRecDepth 20000 in
theorem gX10_fewest_X5_hasCut : GoodIn wsX10_fewest (wsV RX10 134 RX5 yX5_hasCut wsX5_hasCut) := goodIn_app (goodIn_of _ (by decide +kernel)) ggX10_fewest_X5_hasCut
set_option maxRecDepth 20000 in
theorem ggX10_fewest_X5_numberOf : GoodIn wsX10_fewest wsX5_numberOf := goodIn_r _ [13, 9, 14, 85, 86, 87, 88, 89, 90, 91, 92, 93] (by decide +kernel) (by decide +kernel)
set_option maxRecDepth 20000 in
theorem gX10_fewest_X5_numberOf : GoodIn wsX10_fewest (wsV RX10 125 RX5 yX5_numberOf wsX5_numberOf) := goodIn_app (goodIn_of _ (by decide +kernel)) ggX10_fewest_X5_numberOf
set_option maxRecDepth 20000 in
theorem ggX10_fewest_X4_layWay : GoodIn wsX10_fewest wsX4_layWay := goodIn_r _ [19, 20, 21, 22, 23, 24, 18, 25, 26, 27, 28, 29, 30, 31, 32, 33, 34, 35, 7, 36, 14, 37, 5, 6, 8, 9, 38, 39, 40, 41, 42, 43, 44, 45, 46, 47, 48, 49, 50, 51, 52, 53, 54, 55, 56, 57, 58, 59, 60, 61, 62, 63, 11, 12, 13, 64, 65, 66, 67, 68, 69, 70, 71, 94, 95, 96, 97, 98, 85, 86, 87, 88, 89, 90, 91, 92, 93] (by decide +kernel) (by decide +kernel)
set_option maxRecDepth 20000 in
theorem gX10_fewest_X4_layWay : GoodIn wsX10_fewest (wsV RX10 185 RX4 yX4_layWay wsX4_layWay) := goodIn_app (goodIn_of _ (by decide +kernel)) ggX10_fewest_X4_layWay
theorem dX10_fewest_0 : decode cX10_fewest 0 = .ok (.aload_n 0, 1) := by decide +kernel
theorem dX10_fewest_1 : decode cX10_fewest 1 = .ok (.getfield 84, 3) := by decide +kernel
theorem dX10_fewest_4 : decode cX10_fewest 4 = .ok (.iload_n 1, 1) := by decide +kernel
theorem dX10_fewest_5 : decode cX10_fewest 5 = .ok (.invokevirtual 134, 3) := by decide +kernel
theorem dX10_fewest_8 : decode cX10_fewest 8 = .ok (.ifCond .ne 6, 3) := by decide +kernel
theorem dX10_fewest_11 : decode cX10_fewest 11 = .ok (.bipush (-2), 2) := by decide +kernel
theorem dX10_fewest_13 : decode cX10_fewest 13 = .ok (.ireturn, 1) := by decide +kernel
theorem dX10_fewest_14 : decode cX10_fewest 14 = .ok (.aload_n 0, 1) := by decide +kernel
theorem dX10_fewest_15 : decode cX10_fewest 15 = .ok (.getfield 47, 3) := by decide +kernel
theorem dX10_fewest_18 : decode cX10_fewest 18 = .ok (.aload_n 0, 1) := by decide +kernel
theorem dX10_fewest_19 : decode cX10_fewest 19 = .ok (.getfield 84, 3) := by decide +kernel
theorem dX10_fewest_22 : decode cX10_fewest 22 = .ok (.aload_n 0, 1) := by decide +kernel
theorem dX10_fewest_23 : decode cX10_fewest 23 = .ok (.getfield 84, 3) := by decide +kernel
theorem dX10_fewest_26 : decode cX10_fewest 26 = .ok (.aload_n 0, 1) := by decide +kernel
theorem dX10_fewest_27 : decode cX10_fewest 27 = .ok (.getfield 94, 3) := by decide +kernel
theorem dX10_fewest_30 : decode cX10_fewest 30 = .ok (.invokevirtual 125, 3) := by decide +kernel
theorem dX10_fewest_33 : decode cX10_fewest 33 = .ok (.iload_n 1, 1) := by decide +kernel
theorem dX10_fewest_34 : decode cX10_fewest 34 = .ok (.invokevirtual 185, 3) := by decide +kernel
theorem dX10_fewest_37 : decode cX10_fewest 37 = .ok (.ireturn, 1) := by decide +kernel
set_option maxRecDepth 20000 in
theorem ggX10_passed_X4_onWay : GoodIn wsX10_passed wsX4_onWay := goodIn_r _ [6, 7, 8, 22, 23, 24, 25, 26] (by decide +kernel) (by decide +kernel)
set_option maxRecDepth 20000 in
theorem gX10_passed_X4_onWay : GoodIn wsX10_passed (wsV RX10 189 RX4 yX4_onWay wsX4_onWay) := goodIn_app (goodIn_of _ (by decide +kernel)) ggX10_passed_X4_onWay
theorem dX10_passed_0 : decode cX10_passed 0 = .ok (.aload_n 0, 1) := by decide +kernel
theorem dX10_passed_1 : decode cX10_passed 1 = .ok (.getfield 47, 3) := by decide +kernel
theorem dX10_passed_4 : decode cX10_passed 4 = .ok (.iload_n 1, 1) := by decide +kernel
theorem dX10_passed_5 : decode cX10_passed 5 = .ok (.invokevirtual 189, 3) := by decide +kernel
theorem dX10_passed_8 : decode cX10_passed 8 = .ok (.ireturn, 1) := by decide +kernel
set_option maxRecDepth 20000 in
theorem ggX10_farthest_X5_numberOf : GoodIn wsX10_farthest wsX5_numberOf := goodIn_r _ [8, 9, 10, 90, 91, 92, 93, 94, 95, 96, 97, 98] (by decide +kernel) (by decide +kernel)
set_option maxRecDepth 20000 in
theorem gX10_farthest_X5_numberOf : GoodIn wsX10_farthest (wsV RX10 125 RX5 yX5_numberOf wsX5_numberOf) := goodIn_app (goodIn_of _ (by decide +kernel)) ggX10_farthest_X5_numberOf
set_option maxRecDepth 20000 in
theorem ggX10_farthest_X4_measure : GoodIn wsX10_farthest wsX4_measure := goodIn_r _ [15, 16, 17, 18, 19, 20, 21, 14, 22, 23, 24, 25, 7, 26, 10, 27, 28, 29, 30, 9, 31, 32, 33, 34, 35, 36, 37, 38, 39, 40, 41, 42, 43, 44, 45, 46, 47, 48, 49, 50, 51, 52, 53, 54, 55, 56, 5, 6, 8, 57, 58, 59, 60, 99, 100, 101, 102, 103, 90, 91, 92, 93, 94, 95, 96, 97, 98] (by decide +kernel) (by decide +kernel)
set_option maxRecDepth 20000 in
theorem gX10_farthest_X4_measure : GoodIn wsX10_farthest (wsV RX10 191 RX4 yX4_measure wsX4_measure) := goodIn_app (goodIn_of _ (by decide +kernel)) ggX10_farthest_X4_measure
set_option maxRecDepth 20000 in
theorem ggX10_farthest_X4_mostSteps : GoodIn wsX10_farthest wsX4_mostSteps := goodIn_r _ [64, 65, 66, 67, 68, 69, 70, 71, 7, 72, 9, 57, 58, 59, 14, 60, 16, 90, 91, 92, 93, 94, 95, 96, 97, 98, 99, 100, 101, 102, 103] (by decide +kernel) (by decide +kernel)
set_option maxRecDepth 20000 in
theorem gX10_farthest_X4_mostSteps : GoodIn wsX10_farthest (wsV RX10 194 RX4 yX4_mostSteps wsX4_mostSteps) := goodIn_app (goodIn_of _ (by decide +kernel)) ggX10_farthest_X4_mostSteps
set_option maxRecDepth 20000 in
theorem ggX10_farthest_X4_howManyAt : GoodIn wsX10_farthest wsX4_howManyAt := goodIn_r _ [76, 69, 70, 71, 7, 72, 9, 57, 58, 59, 14, 60, 16, 90, 91, 92, 93, 94, 95, 96, 97, 98, 99, 100, 101, 102, 103] (by decide +kernel) (by decide +kernel)
set_option maxRecDepth 20000 in
theorem gX10_farthest_X4_howManyAt : GoodIn wsX10_farthest (wsV RX10 198 RX4 yX4_howManyAt wsX4_howManyAt) := goodIn_app (goodIn_of _ (by decide +kernel)) ggX10_farthest_X4_howManyAt
theorem dX10_farthest_0 : decode cX10_farthest 0 = .ok (.iload_n 1, 1) := by decide +kernel
theorem dX10_farthest_1 : decode cX10_farthest 1 = .ok (.ifCond .eq 10, 3) := by decide +kernel
theorem dX10_farthest_4 : decode cX10_farthest 4 = .ok (.iload_n 1, 1) := by decide +kernel
theorem dX10_farthest_5 : decode cX10_farthest 5 = .ok (.iconst 1, 1) := by decide +kernel
theorem dX10_farthest_6 : decode cX10_farthest 6 = .ok (.if_icmp .eq 5, 3) := by decide +kernel
theorem dX10_farthest_9 : decode cX10_farthest 9 = .ok (.iconst (-1), 1) := by decide +kernel
theorem dX10_farthest_10 : decode cX10_farthest 10 = .ok (.ireturn, 1) := by decide +kernel
theorem dX10_farthest_11 : decode cX10_farthest 11 = .ok (.aload_n 0, 1) := by decide +kernel
theorem dX10_farthest_12 : decode cX10_farthest 12 = .ok (.getfield 47, 3) := by decide +kernel
theorem dX10_farthest_15 : decode cX10_farthest 15 = .ok (.aload_n 0, 1) := by decide +kernel
theorem dX10_farthest_16 : decode cX10_farthest 16 = .ok (.getfield 84, 3) := by decide +kernel
theorem dX10_farthest_19 : decode cX10_farthest 19 = .ok (.aload_n 0, 1) := by decide +kernel
theorem dX10_farthest_20 : decode cX10_farthest 20 = .ok (.getfield 84, 3) := by decide +kernel
theorem dX10_farthest_23 : decode cX10_farthest 23 = .ok (.aload_n 0, 1) := by decide +kernel
theorem dX10_farthest_24 : decode cX10_farthest 24 = .ok (.getfield 94, 3) := by decide +kernel
theorem dX10_farthest_27 : decode cX10_farthest 27 = .ok (.invokevirtual 125, 3) := by decide +kernel
theorem dX10_farthest_30 : decode cX10_farthest 30 = .ok (.invokevirtual 191, 3) := by decide +kernel
theorem dX10_farthest_33 : decode cX10_farthest 33 = .ok (.aload_n 0, 1) := by decide +kernel
theorem dX10_farthest_34 : decode cX10_farthest 34 = .ok (.getfield 47, 3) := by decide +kernel
theorem dX10_farthest_37 : decode cX10_farthest 37 = .ok (.aload_n 0, 1) := by decide +kernel
theorem dX10_farthest_38 : decode cX10_farthest 38 = .ok (.getfield 84, 3) := by decide +kernel
theorem dX10_farthest_41 : decode cX10_farthest 41 = .ok (.invokevirtual 194, 3) := by decide +kernel
theorem dX10_farthest_44 : decode cX10_farthest 44 = .ok (.istore_n 2, 1) := by decide +kernel
theorem dX10_farthest_45 : decode cX10_farthest 45 = .ok (.iload_n 1, 1) := by decide +kernel
theorem dX10_farthest_46 : decode cX10_farthest 46 = .ok (.ifCond .ne 7, 3) := by decide +kernel
theorem dX10_farthest_49 : decode cX10_farthest 49 = .ok (.iload_n 2, 1) := by decide +kernel
theorem dX10_farthest_50 : decode cX10_farthest 50 = .ok (.goto 15, 3) := by decide +kernel
theorem dX10_farthest_53 : decode cX10_farthest 53 = .ok (.aload_n 0, 1) := by decide +kernel
theorem dX10_farthest_54 : decode cX10_farthest 54 = .ok (.getfield 47, 3) := by decide +kernel
theorem dX10_farthest_57 : decode cX10_farthest 57 = .ok (.aload_n 0, 1) := by decide +kernel
theorem dX10_farthest_58 : decode cX10_farthest 58 = .ok (.getfield 84, 3) := by decide +kernel
theorem dX10_farthest_61 : decode cX10_farthest 61 = .ok (.iload_n 2, 1) := by decide +kernel
theorem dX10_farthest_62 : decode cX10_farthest 62 = .ok (.invokevirtual 198, 3) := by decide +kernel
theorem dX10_farthest_65 : decode cX10_farthest 65 = .ok (.ireturn, 1) := by decide +kernel
set_option maxRecDepth 20000 in
theorem ggX10_least_X5_leastAlike : GoodIn wsX10_least wsX5_leastAlike := goodIn_r _ [7, 8, 9, 10, 11, 12, 13, 14, 6, 15, 16, 17, 18, 19, 20, 21, 22, 23, 24, 25, 26, 27, 28, 29, 30, 31, 32, 33, 34, 35, 36, 37, 38, 39, 40, 41, 42, 43, 44, 64, 65, 66, 67, 68, 69, 70, 71, 72] (by decide +kernel) (by decide +kernel)
set_option maxRecDepth 20000 in
theorem gX10_least_X5_leastAlike : GoodIn wsX10_least (wsV RX10 202 RX5 yX5_leastAlike wsX5_leastAlike) := goodIn_app (goodIn_of _ (by decide +kernel)) ggX10_least_X5_leastAlike
set_option maxRecDepth 20000 in
theorem ggX10_least_X5_numberOf : GoodIn wsX10_least wsX5_numberOf := goodIn_r _ [48, 49, 50, 64, 65, 66, 67, 68, 69, 70, 71, 72] (by decide +kernel) (by decide +kernel)
set_option maxRecDepth 20000 in
theorem gX10_least_X5_numberOf : GoodIn wsX10_least (wsV RX10 125 RX5 yX5_numberOf wsX5_numberOf) := goodIn_app (goodIn_of _ (by decide +kernel)) ggX10_least_X5_numberOf
theorem dX10_least_0 : decode cX10_least 0 = .ok (.aload_n 0, 1) := by decide +kernel
theorem dX10_least_1 : decode cX10_least 1 = .ok (.getfield 84, 3) := by decide +kernel
theorem dX10_least_4 : decode cX10_least 4 = .ok (.aload_n 0, 1) := by decide +kernel
theorem dX10_least_5 : decode cX10_least 5 = .ok (.getfield 84, 3) := by decide +kernel
theorem dX10_least_8 : decode cX10_least 8 = .ok (.aload_n 0, 1) := by decide +kernel
theorem dX10_least_9 : decode cX10_least 9 = .ok (.getfield 94, 3) := by decide +kernel
theorem dX10_least_12 : decode cX10_least 12 = .ok (.iload_n 1, 1) := by decide +kernel
theorem dX10_least_13 : decode cX10_least 13 = .ok (.invokevirtual 202, 3) := by decide +kernel
theorem dX10_least_16 : decode cX10_least 16 = .ok (.invokevirtual 125, 3) := by decide +kernel
theorem dX10_least_19 : decode cX10_least 19 = .ok (.ireturn, 1) := by decide +kernel
set_option maxRecDepth 20000 in
theorem ggX10_kinds_X6_withCorners : GoodIn wsX10_kinds wsX6_withCorners := goodIn_r _ [6, 7, 8, 9, 10, 11, 12, 13, 14, 15, 16, 17, 18, 19, 20, 21, 22, 23, 24, 25, 26, 27, 28, 29, 30, 31, 32, 33, 34, 35, 36, 37, 38, 39, 40, 41, 42, 43, 44, 45, 46, 47, 48, 49, 50, 51, 52, 53, 54, 55, 56, 102, 103, 104, 105, 106, 107, 108, 109, 110, 111] (by decide +kernel) (by decide +kernel)
set_option maxRecDepth 20000 in
theorem gX10_kinds_X6_withCorners : GoodIn wsX10_kinds (wsV RX10 80 RX6 yX6_withCorners wsX6_withCorners) := goodIn_app (goodIn_of _ (by decide +kernel)) ggX10_kinds_X6_withCorners
set_option maxRecDepth 20000 in
theorem ggX10_kinds_X5_countKinds : GoodIn wsX10_kinds wsX5_countKinds := goodIn_r _ [60, 49, 23, 61, 62, 63, 10, 64, 24, 65, 66, 67, 68, 25, 18, 19, 69, 70, 71, 72, 73, 74, 75, 76, 77, 78, 79, 80, 81, 82, 83, 84, 20, 85, 86, 87, 88, 103, 104, 105, 106, 107, 108, 109, 110, 111] (by decide +kernel) (by decide +kernel)
set_option maxRecDepth 20000 in
theorem gX10_kinds_X5_countKinds : GoodIn wsX10_kinds (wsV RX10 206 RX5 yX5_countKinds wsX5_countKinds) := goodIn_app (goodIn_of _ (by decide +kernel)) ggX10_kinds_X5_countKinds
theorem dX10_kinds_0 : decode cX10_kinds 0 = .ok (.aload_n 0, 1) := by decide +kernel
theorem dX10_kinds_1 : decode cX10_kinds 1 = .ok (.getfield 19, 3) := by decide +kernel
theorem dX10_kinds_4 : decode cX10_kinds 4 = .ok (.iload_n 1, 1) := by decide +kernel
theorem dX10_kinds_5 : decode cX10_kinds 5 = .ok (.invokevirtual 80, 3) := by decide +kernel
theorem dX10_kinds_8 : decode cX10_kinds 8 = .ok (.astore_n 3, 1) := by decide +kernel
theorem dX10_kinds_9 : decode cX10_kinds 9 = .ok (.aload_n 3, 1) := by decide +kernel
theorem dX10_kinds_10 : decode cX10_kinds 10 = .ok (.ifnonnull 8, 3) := by decide +kernel
theorem dX10_kinds_13 : decode cX10_kinds 13 = .ok (.bipush (-2), 2) := by decide +kernel
theorem dX10_kinds_15 : decode cX10_kinds 15 = .ok (.goto 8, 3) := by decide +kernel
theorem dX10_kinds_18 : decode cX10_kinds 18 = .ok (.aload_n 3, 1) := by decide +kernel
theorem dX10_kinds_19 : decode cX10_kinds 19 = .ok (.iload_n 2, 1) := by decide +kernel
theorem dX10_kinds_20 : decode cX10_kinds 20 = .ok (.invokevirtual 206, 3) := by decide +kernel
theorem dX10_kinds_23 : decode cX10_kinds 23 = .ok (.ireturn, 1) := by decide +kernel
set_option maxRecDepth 20000 in
theorem ggX10_read_X10_takeRow : GoodIn wsX10_read wsX10_takeRow := goodIn_r _ [8, 9, 2, 1, 10, 11, 12, 13, 14, 15, 16, 17, 18, 19, 20, 21, 22, 23, 24, 25, 26, 27, 28, 29, 30, 31, 32, 33, 34, 35, 36, 37, 38, 39, 40, 41, 42, 43, 44, 45, 46, 47, 48, 49, 50, 51, 52, 53, 54, 55, 96, 97, 98, 99, 100, 101, 102, 103, 104, 105, 106, 107, 108, 109, 110, 111, 112, 113, 114, 115, 116, 117, 118, 119, 120, 121, 122, 123] (by decide +kernel) (by decide +kernel)
set_option maxRecDepth 20000 in
theorem gX10_read_X10_takeRow : GoodIn wsX10_read (wsV RX10 210 RX10 yX10_takeRow wsX10_takeRow) := goodIn_app (goodIn_of _ (by decide +kernel)) ggX10_read_X10_takeRow
set_option maxRecDepth 20000 in
theorem ggX10_read_X5_nearestTo : GoodIn wsX10_read wsX5_nearestTo := goodIn_r _ [59, 60, 61, 62, 63, 64, 53, 65, 66, 67, 68, 69, 70, 71, 72, 73, 55, 74, 75, 76, 77, 78, 79, 80, 81, 82, 83, 84, 85, 86, 87, 88, 89, 90, 91, 92, 93, 115, 116, 117, 118, 119, 120, 121, 122, 123] (by decide +kernel) (by decide +kernel)
set_option maxRecDepth 20000 in
theorem gX10_read_X5_nearestTo : GoodIn wsX10_read (wsV RX10 213 RX5 yX5_nearestTo wsX5_nearestTo) := goodIn_app (goodIn_of _ (by decide +kernel)) ggX10_read_X5_nearestTo
set_option maxRecDepth 20000 in
theorem ggX10_read_X5_cutAt : GoodIn wsX10_read wsX5_cutAt := goodIn_r _ [65, 61, 66, 67, 68, 53, 69, 60, 115, 116, 117, 118, 119, 120, 121, 122, 123] (by decide +kernel) (by decide +kernel)
set_option maxRecDepth 20000 in
theorem gX10_read_X5_cutAt : GoodIn wsX10_read (wsV RX10 88 RX5 yX5_cutAt wsX5_cutAt) := goodIn_app (goodIn_of _ (by decide +kernel)) ggX10_read_X5_cutAt
set_option maxRecDepth 20000 in
theorem ggX10_read_X5_differenceFrom : GoodIn wsX10_read wsX5_differenceFrom := goodIn_r _ [73, 55, 74, 75, 76, 77, 78, 79, 80, 53, 81, 82, 83, 84, 85, 86, 87, 88, 89, 90, 91, 92, 93, 115, 116, 117, 118, 119, 120, 121, 122, 123] (by decide +kernel) (by decide +kernel)
set_option maxRecDepth 20000 in
theorem gX10_read_X5_differenceFrom : GoodIn wsX10_read (wsV RX10 217 RX5 yX5_differenceFrom wsX5_differenceFrom) := goodIn_app (goodIn_of _ (by decide +kernel)) ggX10_read_X5_differenceFrom
theorem dX10_read_0 : decode cX10_read 0 = .ok (.aload_n 0, 1) := by decide +kernel
theorem dX10_read_1 : decode cX10_read 1 = .ok (.invokevirtual 210, 3) := by decide +kernel
theorem dX10_read_4 : decode cX10_read 4 = .ok (.ifCond .ne 6, 3) := by decide +kernel
theorem dX10_read_7 : decode cX10_read 7 = .ok (.bipush (-2), 2) := by decide +kernel
theorem dX10_read_9 : decode cX10_read 9 = .ok (.ireturn, 1) := by decide +kernel
theorem dX10_read_10 : decode cX10_read 10 = .ok (.aload_n 0, 1) := by decide +kernel
theorem dX10_read_11 : decode cX10_read 11 = .ok (.getfield 84, 3) := by decide +kernel
theorem dX10_read_14 : decode cX10_read 14 = .ok (.aload_n 0, 1) := by decide +kernel
theorem dX10_read_15 : decode cX10_read 15 = .ok (.getfield 72, 3) := by decide +kernel
theorem dX10_read_18 : decode cX10_read 18 = .ok (.invokevirtual 213, 3) := by decide +kernel
theorem dX10_read_21 : decode cX10_read 21 = .ok (.istore_n 1, 1) := by decide +kernel
theorem dX10_read_22 : decode cX10_read 22 = .ok (.aload_n 0, 1) := by decide +kernel
theorem dX10_read_23 : decode cX10_read 23 = .ok (.getfield 84, 3) := by decide +kernel
theorem dX10_read_26 : decode cX10_read 26 = .ok (.aload_n 0, 1) := by decide +kernel
theorem dX10_read_27 : decode cX10_read 27 = .ok (.getfield 72, 3) := by decide +kernel
theorem dX10_read_30 : decode cX10_read 30 = .ok (.aload_n 0, 1) := by decide +kernel
theorem dX10_read_31 : decode cX10_read 31 = .ok (.getfield 84, 3) := by decide +kernel
theorem dX10_read_34 : decode cX10_read 34 = .ok (.iload_n 1, 1) := by decide +kernel
theorem dX10_read_35 : decode cX10_read 35 = .ok (.invokevirtual 88, 3) := by decide +kernel
theorem dX10_read_38 : decode cX10_read 38 = .ok (.invokevirtual 217, 3) := by decide +kernel
theorem dX10_read_41 : decode cX10_read 41 = .ok (.ifCond .eq 5, 3) := by decide +kernel
theorem dX10_read_44 : decode cX10_read 44 = .ok (.iconst (-1), 1) := by decide +kernel
theorem dX10_read_45 : decode cX10_read 45 = .ok (.ireturn, 1) := by decide +kernel
theorem dX10_read_46 : decode cX10_read 46 = .ok (.aload_n 0, 1) := by decide +kernel
theorem dX10_read_47 : decode cX10_read 47 = .ok (.aload_n 0, 1) := by decide +kernel
theorem dX10_read_48 : decode cX10_read 48 = .ok (.getfield 84, 3) := by decide +kernel
theorem dX10_read_51 : decode cX10_read 51 = .ok (.iload_n 1, 1) := by decide +kernel
theorem dX10_read_52 : decode cX10_read 52 = .ok (.invokevirtual 88, 3) := by decide +kernel
theorem dX10_read_55 : decode cX10_read 55 = .ok (.putfield 94, 3) := by decide +kernel
theorem dX10_read_58 : decode cX10_read 58 = .ok (.iload_n 1, 1) := by decide +kernel
theorem dX10_read_59 : decode cX10_read 59 = .ok (.ireturn, 1) := by decide +kernel
set_option maxRecDepth 20000 in
theorem ggX10_mend_X10_takeRow : GoodIn wsX10_mend wsX10_takeRow := goodIn_r _ [8, 9, 2, 1, 10, 11, 12, 13, 14, 15, 16, 17, 18, 19, 20, 21, 22, 23, 24, 25, 26, 27, 28, 29, 30, 31, 32, 33, 34, 35, 36, 37, 38, 39, 40, 41, 42, 43, 44, 45, 46, 47, 48, 49, 50, 51, 52, 53, 54, 55, 96, 97, 98, 99, 100, 101, 102, 103, 104, 105, 106, 107, 108, 109, 110, 111, 112, 113, 114, 115, 116, 117, 118, 119, 120, 121, 122, 123] (by decide +kernel) (by decide +kernel)
set_option maxRecDepth 20000 in
theorem gX10_mend_X10_takeRow : GoodIn wsX10_mend (wsV RX10 210 RX10 yX10_takeRow wsX10_takeRow) := goodIn_app (goodIn_of _ (by decide +kernel)) ggX10_mend_X10_takeRow
set_option maxRecDepth 20000 in
theorem ggX10_mend_X5_nearestTo : GoodIn wsX10_mend wsX5_nearestTo := goodIn_r _ [59, 60, 61, 62, 63, 64, 53, 65, 66, 67, 68, 69, 70, 71, 72, 73, 55, 74, 75, 76, 77, 78, 79, 80, 81, 82, 83, 84, 85, 86, 87, 88, 89, 90, 91, 92, 93, 115, 116, 117, 118, 119, 120, 121, 122, 123] (by decide +kernel) (by decide +kernel)
set_option maxRecDepth 20000 in
theorem gX10_mend_X5_nearestTo : GoodIn wsX10_mend (wsV RX10 213 RX5 yX5_nearestTo wsX5_nearestTo) := goodIn_app (goodIn_of _ (by decide +kernel)) ggX10_mend_X5_nearestTo
set_option maxRecDepth 20000 in
theorem ggX10_mend_X5_cutAt : GoodIn wsX10_mend wsX5_cutAt := goodIn_r _ [65, 61, 66, 67, 68, 53, 69, 60, 115, 116, 117, 118, 119, 120, 121, 122, 123] (by decide +kernel) (by decide +kernel)
set_option maxRecDepth 20000 in
theorem gX10_mend_X5_cutAt : GoodIn wsX10_mend (wsV RX10 88 RX5 yX5_cutAt wsX5_cutAt) := goodIn_app (goodIn_of _ (by decide +kernel)) ggX10_mend_X5_cutAt
set_option maxRecDepth 20000 in
theorem ggX10_mend_X5_differenceFrom : GoodIn wsX10_mend wsX5_differenceFrom := goodIn_r _ [73, 55, 74, 75, 76, 77, 78, 79, 80, 53, 81, 82, 83, 84, 85, 86, 87, 88, 89, 90, 91, 92, 93, 115, 116, 117, 118, 119, 120, 121, 122, 123] (by decide +kernel) (by decide +kernel)
set_option maxRecDepth 20000 in
theorem gX10_mend_X5_differenceFrom : GoodIn wsX10_mend (wsV RX10 217 RX5 yX5_differenceFrom wsX5_differenceFrom) := goodIn_app (goodIn_of _ (by decide +kernel)) ggX10_mend_X5_differenceFrom
theorem dX10_mend_0 : decode cX10_mend 0 = .ok (.aload_n 0, 1) := by decide +kernel
theorem dX10_mend_1 : decode cX10_mend 1 = .ok (.invokevirtual 210, 3) := by decide +kernel
theorem dX10_mend_4 : decode cX10_mend 4 = .ok (.ifCond .ne 6, 3) := by decide +kernel
theorem dX10_mend_7 : decode cX10_mend 7 = .ok (.bipush (-2), 2) := by decide +kernel
theorem dX10_mend_9 : decode cX10_mend 9 = .ok (.ireturn, 1) := by decide +kernel
theorem dX10_mend_10 : decode cX10_mend 10 = .ok (.aload_n 0, 1) := by decide +kernel
theorem dX10_mend_11 : decode cX10_mend 11 = .ok (.aload_n 0, 1) := by decide +kernel
theorem dX10_mend_12 : decode cX10_mend 12 = .ok (.getfield 84, 3) := by decide +kernel
theorem dX10_mend_15 : decode cX10_mend 15 = .ok (.aload_n 0, 1) := by decide +kernel
theorem dX10_mend_16 : decode cX10_mend 16 = .ok (.getfield 72, 3) := by decide +kernel
theorem dX10_mend_19 : decode cX10_mend 19 = .ok (.invokevirtual 213, 3) := by decide +kernel
theorem dX10_mend_22 : decode cX10_mend 22 = .ok (.putfield 76, 3) := by decide +kernel
theorem dX10_mend_25 : decode cX10_mend 25 = .ok (.aload_n 0, 1) := by decide +kernel
theorem dX10_mend_26 : decode cX10_mend 26 = .ok (.getfield 84, 3) := by decide +kernel
theorem dX10_mend_29 : decode cX10_mend 29 = .ok (.aload_n 0, 1) := by decide +kernel
theorem dX10_mend_30 : decode cX10_mend 30 = .ok (.getfield 72, 3) := by decide +kernel
theorem dX10_mend_33 : decode cX10_mend 33 = .ok (.aload_n 0, 1) := by decide +kernel
theorem dX10_mend_34 : decode cX10_mend 34 = .ok (.getfield 84, 3) := by decide +kernel
theorem dX10_mend_37 : decode cX10_mend 37 = .ok (.aload_n 0, 1) := by decide +kernel
theorem dX10_mend_38 : decode cX10_mend 38 = .ok (.getfield 76, 3) := by decide +kernel
theorem dX10_mend_41 : decode cX10_mend 41 = .ok (.invokevirtual 88, 3) := by decide +kernel
theorem dX10_mend_44 : decode cX10_mend 44 = .ok (.invokevirtual 217, 3) := by decide +kernel
theorem dX10_mend_47 : decode cX10_mend 47 = .ok (.ireturn, 1) := by decide +kernel
theorem dX10_mended_0 : decode cX10_mended 0 = .ok (.aload_n 0, 1) := by decide +kernel
theorem dX10_mended_1 : decode cX10_mended 1 = .ok (.getfield 76, 3) := by decide +kernel
theorem dX10_mended_4 : decode cX10_mended 4 = .ok (.ireturn, 1) := by decide +kernel
set_option maxRecDepth 20000 in
theorem ggX10_crossed_X10_areCorners : GoodIn wsX10_crossed wsX10_areCorners := goodIn_r _ [8, 2, 9, 10, 11, 12, 13, 14, 83, 84, 85, 86, 87, 88, 89, 90, 91, 92, 93, 94, 95, 96, 97, 98, 99, 100, 101, 102, 103, 104] (by decide +kernel) (by decide +kernel)
set_option maxRecDepth 20000 in
theorem gX10_crossed_X10_areCorners : GoodIn wsX10_crossed (wsV RX10 152 RX10 yX10_areCorners wsX10_areCorners) := goodIn_app (goodIn_of _ (by decide +kernel)) ggX10_crossed_X10_areCorners
set_option maxRecDepth 20000 in
theorem ggX10_crossed_X0_gather : GoodIn wsX10_crossed wsX0_gather := goodIn_r _ [19, 20, 21, 22, 23, 24, 12, 25, 26, 27, 10, 11, 13, 14, 28, 29, 30, 31, 32, 33, 34, 35, 36, 37, 38, 39, 40, 41, 42, 43, 44, 45, 46, 47, 48, 49, 50, 51, 18, 52, 53, 54, 55, 56, 57, 58, 59, 60, 61, 62, 63, 64, 65, 66, 67, 68, 69, 70, 105, 106, 96, 97, 98, 99, 100, 101, 102, 103, 104] (by decide +kernel) (by decide +kernel)
set_option maxRecDepth 20000 in
theorem gX10_crossed_X0_gather : GoodIn wsX10_crossed (wsV RX10 221 RX0 yX0_gather wsX0_gather) := goodIn_app (goodIn_of _ (by decide +kernel)) ggX10_crossed_X0_gather
set_option maxRecDepth 20000 in
theorem ggX10_crossed_X0_size : GoodIn wsX10_crossed wsX0_size := goodIn_r _ [74, 20, 105, 106] (by decide +kernel) (by decide +kernel)
set_option maxRecDepth 20000 in
theorem gX10_crossed_X0_size : GoodIn wsX10_crossed (wsV RX10 224 RX0 yX0_size wsX0_size) := goodIn_app (goodIn_of _ (by decide +kernel)) ggX10_crossed_X0_size
set_option maxRecDepth 20000 in
theorem ggX10_crossed_X0_pairAt : GoodIn wsX10_crossed wsX0_pairAt := goodIn_r _ [78, 20, 21, 79, 80, 81, 12, 82, 61, 70, 33, 34, 35, 36, 37, 105, 106, 96, 97, 98, 99, 100, 101, 102, 103, 104] (by decide +kernel) (by decide +kernel)
set_option maxRecDepth 20000 in
theorem gX10_crossed_X0_pairAt : GoodIn wsX10_crossed (wsV RX10 225 RX0 yX0_pairAt wsX0_pairAt) := goodIn_app (goodIn_of _ (by decide +kernel)) ggX10_crossed_X0_pairAt
theorem dX10_crossed_0 : decode cX10_crossed 0 = .ok (.aload_n 0, 1) := by decide +kernel
theorem dX10_crossed_1 : decode cX10_crossed 1 = .ok (.iload_n 1, 1) := by decide +kernel
theorem dX10_crossed_2 : decode cX10_crossed 2 = .ok (.iload_n 2, 1) := by decide +kernel
theorem dX10_crossed_3 : decode cX10_crossed 3 = .ok (.invokevirtual 152, 3) := by decide +kernel
theorem dX10_crossed_6 : decode cX10_crossed 6 = .ok (.ifCond .eq 8, 3) := by decide +kernel
theorem dX10_crossed_9 : decode cX10_crossed 9 = .ok (.iload_n 1, 1) := by decide +kernel
theorem dX10_crossed_10 : decode cX10_crossed 10 = .ok (.iload_n 2, 1) := by decide +kernel
theorem dX10_crossed_11 : decode cX10_crossed 11 = .ok (.if_icmp .ne 6, 3) := by decide +kernel
theorem dX10_crossed_14 : decode cX10_crossed 14 = .ok (.bipush (-2), 2) := by decide +kernel
theorem dX10_crossed_16 : decode cX10_crossed 16 = .ok (.ireturn, 1) := by decide +kernel
theorem dX10_crossed_17 : decode cX10_crossed 17 = .ok (.aload_n 0, 1) := by decide +kernel
theorem dX10_crossed_18 : decode cX10_crossed 18 = .ok (.getfield 40, 3) := by decide +kernel
theorem dX10_crossed_21 : decode cX10_crossed 21 = .ok (.aload_n 0, 1) := by decide +kernel
theorem dX10_crossed_22 : decode cX10_crossed 22 = .ok (.getfield 84, 3) := by decide +kernel
theorem dX10_crossed_25 : decode cX10_crossed 25 = .ok (.aload_n 0, 1) := by decide +kernel
theorem dX10_crossed_26 : decode cX10_crossed 26 = .ok (.getfield 94, 3) := by decide +kernel
theorem dX10_crossed_29 : decode cX10_crossed 29 = .ok (.iload_n 1, 1) := by decide +kernel
theorem dX10_crossed_30 : decode cX10_crossed 30 = .ok (.iload_n 2, 1) := by decide +kernel
theorem dX10_crossed_31 : decode cX10_crossed 31 = .ok (.invokevirtual 221, 3) := by decide +kernel
theorem dX10_crossed_34 : decode cX10_crossed 34 = .ok (.iload_n 3, 1) := by decide +kernel
theorem dX10_crossed_35 : decode cX10_crossed 35 = .ok (.iconst (-1), 1) := by decide +kernel
theorem dX10_crossed_36 : decode cX10_crossed 36 = .ok (.if_icmp .ne 13, 3) := by decide +kernel
theorem dX10_crossed_39 : decode cX10_crossed 39 = .ok (.aload_n 0, 1) := by decide +kernel
theorem dX10_crossed_40 : decode cX10_crossed 40 = .ok (.getfield 40, 3) := by decide +kernel
theorem dX10_crossed_43 : decode cX10_crossed 43 = .ok (.invokevirtual 224, 3) := by decide +kernel
theorem dX10_crossed_46 : decode cX10_crossed 46 = .ok (.goto 15, 3) := by decide +kernel
theorem dX10_crossed_49 : decode cX10_crossed 49 = .ok (.aload_n 0, 1) := by decide +kernel
theorem dX10_crossed_50 : decode cX10_crossed 50 = .ok (.getfield 40, 3) := by decide +kernel
theorem dX10_crossed_53 : decode cX10_crossed 53 = .ok (.aload_n 0, 1) := by decide +kernel
theorem dX10_crossed_54 : decode cX10_crossed 54 = .ok (.getfield 84, 3) := by decide +kernel
theorem dX10_crossed_57 : decode cX10_crossed 57 = .ok (.iload_n 3, 1) := by decide +kernel
theorem dX10_crossed_58 : decode cX10_crossed 58 = .ok (.invokevirtual 225, 3) := by decide +kernel
theorem dX10_crossed_61 : decode cX10_crossed 61 = .ok (.ireturn, 1) := by decide +kernel
set_option maxRecDepth 20000 in
theorem ggX10_side_X10_areCorners : GoodIn wsX10_side wsX10_areCorners := goodIn_r _ [8, 2, 9, 10, 11, 12, 13, 14, 76, 77, 78, 79, 80, 81, 82, 83, 84, 85, 86, 87, 88, 89, 90, 91, 92, 93, 94, 95, 96, 97] (by decide +kernel) (by decide +kernel)
set_option maxRecDepth 20000 in
theorem gX10_side_X10_areCorners : GoodIn wsX10_side (wsV RX10 152 RX10 yX10_areCorners wsX10_areCorners) := goodIn_app (goodIn_of _ (by decide +kernel)) ggX10_side_X10_areCorners
set_option maxRecDepth 20000 in
theorem ggX10_side_X0_gather : GoodIn wsX10_side wsX0_gather := goodIn_r _ [19, 20, 21, 22, 23, 24, 12, 25, 26, 27, 10, 11, 13, 14, 28, 29, 30, 31, 32, 33, 34, 35, 36, 37, 38, 39, 40, 41, 42, 43, 44, 45, 46, 47, 48, 49, 50, 51, 18, 52, 53, 54, 55, 56, 57, 58, 59, 60, 61, 62, 63, 64, 65, 66, 67, 68, 69, 70, 98, 99, 89, 90, 91, 92, 93, 94, 95, 96, 97] (by decide +kernel) (by decide +kernel)
set_option maxRecDepth 20000 in
theorem gX10_side_X0_gather : GoodIn wsX10_side (wsV RX10 221 RX0 yX0_gather wsX0_gather) := goodIn_app (goodIn_of _ (by decide +kernel)) ggX10_side_X0_gather
set_option maxRecDepth 20000 in
theorem ggX10_side_X0_sharedWithNext : GoodIn wsX10_side wsX0_sharedWithNext := goodIn_r _ [74, 20, 21, 57, 58, 59, 12, 60, 61, 33, 34, 35, 36, 37, 66, 67, 68, 69, 70, 98, 99, 89, 90, 91, 92, 93, 94, 95, 96, 97] (by decide +kernel) (by decide +kernel)
set_option maxRecDepth 20000 in
theorem gX10_side_X0_sharedWithNext : GoodIn wsX10_side (wsV RX10 228 RX0 yX0_sharedWithNext wsX0_sharedWithNext) := goodIn_app (goodIn_of _ (by decide +kernel)) ggX10_side_X0_sharedWithNext
set_option maxRecDepth 20000 in
theorem ggX10_side_X5_ahead : GoodIn wsX10_side wsX5_ahead := goodIn_r _ [65, 14, 89, 90, 91, 92, 93, 94, 95, 96, 97] (by decide +kernel) (by decide +kernel)
set_option maxRecDepth 20000 in
theorem gX10_side_X5_ahead : GoodIn wsX10_side (wsV RX10 166 RX5 yX5_ahead wsX5_ahead) := goodIn_app (goodIn_of _ (by decide +kernel)) ggX10_side_X5_ahead
theorem dX10_side_0 : decode cX10_side 0 = .ok (.aload_n 0, 1) := by decide +kernel
theorem dX10_side_1 : decode cX10_side 1 = .ok (.iload_n 1, 1) := by decide +kernel
theorem dX10_side_2 : decode cX10_side 2 = .ok (.iload_n 2, 1) := by decide +kernel
theorem dX10_side_3 : decode cX10_side 3 = .ok (.invokevirtual 152, 3) := by decide +kernel
theorem dX10_side_6 : decode cX10_side 6 = .ok (.ifCond .eq 8, 3) := by decide +kernel
theorem dX10_side_9 : decode cX10_side 9 = .ok (.iload_n 1, 1) := by decide +kernel
theorem dX10_side_10 : decode cX10_side 10 = .ok (.iload_n 2, 1) := by decide +kernel
theorem dX10_side_11 : decode cX10_side 11 = .ok (.if_icmp .ne 6, 3) := by decide +kernel
theorem dX10_side_14 : decode cX10_side 14 = .ok (.bipush (-2), 2) := by decide +kernel
theorem dX10_side_16 : decode cX10_side 16 = .ok (.ireturn, 1) := by decide +kernel
theorem dX10_side_17 : decode cX10_side 17 = .ok (.aload_n 0, 1) := by decide +kernel
theorem dX10_side_18 : decode cX10_side 18 = .ok (.getfield 40, 3) := by decide +kernel
theorem dX10_side_21 : decode cX10_side 21 = .ok (.aload_n 0, 1) := by decide +kernel
theorem dX10_side_22 : decode cX10_side 22 = .ok (.getfield 84, 3) := by decide +kernel
theorem dX10_side_25 : decode cX10_side 25 = .ok (.aload_n 0, 1) := by decide +kernel
theorem dX10_side_26 : decode cX10_side 26 = .ok (.getfield 94, 3) := by decide +kernel
theorem dX10_side_29 : decode cX10_side 29 = .ok (.iload_n 1, 1) := by decide +kernel
theorem dX10_side_30 : decode cX10_side 30 = .ok (.iload_n 2, 1) := by decide +kernel
theorem dX10_side_31 : decode cX10_side 31 = .ok (.invokevirtual 221, 3) := by decide +kernel
theorem dX10_side_34 : decode cX10_side 34 = .ok (.aload_n 0, 1) := by decide +kernel
theorem dX10_side_35 : decode cX10_side 35 = .ok (.getfield 40, 3) := by decide +kernel
theorem dX10_side_38 : decode cX10_side 38 = .ok (.aload_n 0, 1) := by decide +kernel
theorem dX10_side_39 : decode cX10_side 39 = .ok (.getfield 84, 3) := by decide +kernel
theorem dX10_side_42 : decode cX10_side 42 = .ok (.iload_n 3, 1) := by decide +kernel
theorem dX10_side_43 : decode cX10_side 43 = .ok (.invokevirtual 228, 3) := by decide +kernel
theorem dX10_side_46 : decode cX10_side 46 = .ok (.istore 4, 2) := by decide +kernel
theorem dX10_side_48 : decode cX10_side 48 = .ok (.iload 4, 2) := by decide +kernel
theorem dX10_side_50 : decode cX10_side 50 = .ok (.iconst (-1), 1) := by decide +kernel
theorem dX10_side_51 : decode cX10_side 51 = .ok (.if_icmp .ne 5, 3) := by decide +kernel
theorem dX10_side_54 : decode cX10_side 54 = .ok (.iconst (-1), 1) := by decide +kernel
theorem dX10_side_55 : decode cX10_side 55 = .ok (.ireturn, 1) := by decide +kernel
theorem dX10_side_56 : decode cX10_side 56 = .ok (.aload_n 0, 1) := by decide +kernel
theorem dX10_side_57 : decode cX10_side 57 = .ok (.getfield 84, 3) := by decide +kernel
theorem dX10_side_60 : decode cX10_side 60 = .ok (.iload_n 1, 1) := by decide +kernel
theorem dX10_side_61 : decode cX10_side 61 = .ok (.iload 4, 2) := by decide +kernel
theorem dX10_side_63 : decode cX10_side 63 = .ok (.invokevirtual 166, 3) := by decide +kernel
theorem dX10_side_66 : decode cX10_side 66 = .ok (.aload_n 0, 1) := by decide +kernel
theorem dX10_side_67 : decode cX10_side 67 = .ok (.getfield 84, 3) := by decide +kernel
theorem dX10_side_70 : decode cX10_side 70 = .ok (.iload_n 1, 1) := by decide +kernel
theorem dX10_side_71 : decode cX10_side 71 = .ok (.iload_n 2, 1) := by decide +kernel
theorem dX10_side_72 : decode cX10_side 72 = .ok (.invokevirtual 166, 3) := by decide +kernel
theorem dX10_side_75 : decode cX10_side 75 = .ok (.if_icmp .ge 7, 3) := by decide +kernel
theorem dX10_side_78 : decode cX10_side 78 = .ok (.iconst 0, 1) := by decide +kernel
theorem dX10_side_79 : decode cX10_side 79 = .ok (.goto 4, 3) := by decide +kernel
theorem dX10_side_82 : decode cX10_side 82 = .ok (.iconst 1, 1) := by decide +kernel
theorem dX10_side_83 : decode cX10_side 83 = .ok (.ireturn, 1) := by decide +kernel
set_option maxRecDepth 20000 in
theorem ggX10_greatest_X6_withCorners : GoodIn wsX10_greatest wsX6_withCorners := goodIn_r _ [6, 7, 8, 9, 10, 11, 12, 13, 14, 15, 16, 17, 18, 19, 20, 21, 22, 23, 24, 25, 26, 27, 28, 29, 30, 31, 32, 33, 34, 35, 36, 37, 38, 39, 40, 41, 42, 43, 44, 45, 46, 47, 48, 49, 50, 51, 52, 53, 54, 55, 56, 103, 104, 105, 106, 107, 108, 109, 110, 111, 112] (by decide +kernel) (by decide +kernel)
set_option maxRecDepth 20000 in
theorem gX10_greatest_X6_withCorners : GoodIn wsX10_greatest (wsV RX10 80 RX6 yX6_withCorners wsX6_withCorners) := goodIn_app (goodIn_of _ (by decide +kernel)) ggX10_greatest_X6_withCorners
set_option maxRecDepth 20000 in
theorem ggX10_greatest_X5_numberOfGreatest : GoodIn wsX10_greatest wsX5_numberOfGreatest := goodIn_r _ [60, 49, 23, 61, 62, 63, 10, 64, 24, 65, 66, 67, 68, 69, 70, 71, 72, 73, 74, 75, 76, 22, 77, 78, 79, 80, 50, 51, 52, 53, 54, 55, 56, 104, 105, 106, 107, 108, 109, 110, 111, 112] (by decide +kernel) (by decide +kernel)
set_option maxRecDepth 20000 in
theorem gX10_greatest_X5_numberOfGreatest : GoodIn wsX10_greatest (wsV RX10 231 RX5 yX5_numberOfGreatest wsX5_numberOfGreatest) := goodIn_app (goodIn_of _ (by decide +kernel)) ggX10_greatest_X5_numberOfGreatest
set_option maxRecDepth 20000 in
theorem ggX10_greatest_X5_cutAt : GoodIn wsX10_greatest wsX5_cutAt := goodIn_r _ [84, 23, 85, 86, 87, 10, 88, 49, 104, 105, 106, 107, 108, 109, 110, 111, 112] (by decide +kernel) (by decide +kernel)
set_option maxRecDepth 20000 in
theorem gX10_greatest_X5_cutAt : GoodIn wsX10_greatest (wsV RX10 88 RX5 yX5_cutAt wsX5_cutAt) := goodIn_app (goodIn_of _ (by decide +kernel)) ggX10_greatest_X5_cutAt
set_option maxRecDepth 20000 in
theorem ggX10_greatest_X5_greatestIn : GoodIn wsX10_greatest wsX5_greatestIn := goodIn_r _ [64, 24, 65, 66, 67, 68, 69, 70, 71, 10, 72, 73, 74, 75, 76, 22, 77, 78, 79, 80, 50, 51, 52, 53, 54, 55, 56, 104, 105, 106, 107, 108, 109, 110, 111, 112] (by decide +kernel) (by decide +kernel)
set_option maxRecDepth 20000 in
theorem gX10_greatest_X5_greatestIn : GoodIn wsX10_greatest (wsV RX10 234 RX5 yX5_greatestIn wsX5_greatestIn) := goodIn_app (goodIn_of _ (by decide +kernel)) ggX10_greatest_X5_greatestIn
theorem dX10_greatest_0 : decode cX10_greatest 0 = .ok (.aload_n 0, 1) := by decide +kernel
theorem dX10_greatest_1 : decode cX10_greatest 1 = .ok (.getfield 19, 3) := by decide +kernel
theorem dX10_greatest_4 : decode cX10_greatest 4 = .ok (.iload_n 1, 1) := by decide +kernel
theorem dX10_greatest_5 : decode cX10_greatest 5 = .ok (.invokevirtual 80, 3) := by decide +kernel
theorem dX10_greatest_8 : decode cX10_greatest 8 = .ok (.astore_n 3, 1) := by decide +kernel
theorem dX10_greatest_9 : decode cX10_greatest 9 = .ok (.aload_n 3, 1) := by decide +kernel
theorem dX10_greatest_10 : decode cX10_greatest 10 = .ok (.ifnull 12, 3) := by decide +kernel
theorem dX10_greatest_13 : decode cX10_greatest 13 = .ok (.iload_n 2, 1) := by decide +kernel
theorem dX10_greatest_14 : decode cX10_greatest 14 = .ok (.ifCond .lt 8, 3) := by decide +kernel
theorem dX10_greatest_17 : decode cX10_greatest 17 = .ok (.iload_n 2, 1) := by decide +kernel
theorem dX10_greatest_18 : decode cX10_greatest 18 = .ok (.iconst 1, 1) := by decide +kernel
theorem dX10_greatest_19 : decode cX10_greatest 19 = .ok (.if_icmp .le 6, 3) := by decide +kernel
theorem dX10_greatest_22 : decode cX10_greatest 22 = .ok (.bipush (-2), 2) := by decide +kernel
theorem dX10_greatest_24 : decode cX10_greatest 24 = .ok (.ireturn, 1) := by decide +kernel
theorem dX10_greatest_25 : decode cX10_greatest 25 = .ok (.aload_n 3, 1) := by decide +kernel
theorem dX10_greatest_26 : decode cX10_greatest 26 = .ok (.invokevirtual 231, 3) := by decide +kernel
theorem dX10_greatest_29 : decode cX10_greatest 29 = .ok (.istore 4, 2) := by decide +kernel
theorem dX10_greatest_31 : decode cX10_greatest 31 = .ok (.iload_n 2, 1) := by decide +kernel
theorem dX10_greatest_32 : decode cX10_greatest 32 = .ok (.iconst 1, 1) := by decide +kernel
theorem dX10_greatest_33 : decode cX10_greatest 33 = .ok (.if_icmp .ne 8, 3) := by decide +kernel
theorem dX10_greatest_36 : decode cX10_greatest 36 = .ok (.iload 4, 2) := by decide +kernel
theorem dX10_greatest_38 : decode cX10_greatest 38 = .ok (.goto 13, 3) := by decide +kernel
theorem dX10_greatest_41 : decode cX10_greatest 41 = .ok (.aload_n 3, 1) := by decide +kernel
theorem dX10_greatest_42 : decode cX10_greatest 42 = .ok (.aload_n 3, 1) := by decide +kernel
theorem dX10_greatest_43 : decode cX10_greatest 43 = .ok (.iload 4, 2) := by decide +kernel
theorem dX10_greatest_45 : decode cX10_greatest 45 = .ok (.invokevirtual 88, 3) := by decide +kernel
theorem dX10_greatest_48 : decode cX10_greatest 48 = .ok (.invokevirtual 234, 3) := by decide +kernel
theorem dX10_greatest_51 : decode cX10_greatest 51 = .ok (.ireturn, 1) := by decide +kernel
set_option maxRecDepth 20000 in
theorem ggX10_spread_X10_areCorners : GoodIn wsX10_spread wsX10_areCorners := goodIn_r _ [6, 1, 7, 8, 9, 10, 11, 12, 43, 44, 45, 46, 47, 48, 49, 50, 51, 52, 53, 54, 55, 56, 57, 58, 59, 60, 61, 62, 63, 64] (by decide +kernel) (by decide +kernel)
set_option maxRecDepth 20000 in
theorem gX10_spread_X10_areCorners : GoodIn wsX10_spread (wsV RX10 152 RX10 yX10_areCorners wsX10_areCorners) := goodIn_app (goodIn_of _ (by decide +kernel)) ggX10_spread_X10_areCorners
set_option maxRecDepth 20000 in
theorem ggX10_spread_X5_countWith : GoodIn wsX10_spread wsX5_countWith := goodIn_r _ [16, 17, 18, 19, 20, 21, 10, 22, 23, 24, 25, 26, 27, 28, 29, 30, 31, 32, 33, 34, 35, 8, 9, 11, 12, 36, 37, 38, 39, 40, 41, 42, 56, 57, 58, 59, 60, 61, 62, 63, 64] (by decide +kernel) (by decide +kernel)
set_option maxRecDepth 20000 in
theorem gX10_spread_X5_countWith : GoodIn wsX10_spread (wsV RX10 237 RX5 yX5_countWith wsX5_countWith) := goodIn_app (goodIn_of _ (by decide +kernel)) ggX10_spread_X5_countWith
theorem dX10_spread_0 : decode cX10_spread 0 = .ok (.aload_n 0, 1) := by decide +kernel
theorem dX10_spread_1 : decode cX10_spread 1 = .ok (.iload_n 1, 1) := by decide +kernel
theorem dX10_spread_2 : decode cX10_spread 2 = .ok (.iload_n 2, 1) := by decide +kernel
theorem dX10_spread_3 : decode cX10_spread 3 = .ok (.invokevirtual 152, 3) := by decide +kernel
theorem dX10_spread_6 : decode cX10_spread 6 = .ok (.ifCond .eq 16, 3) := by decide +kernel
theorem dX10_spread_9 : decode cX10_spread 9 = .ok (.aload_n 0, 1) := by decide +kernel
theorem dX10_spread_10 : decode cX10_spread 10 = .ok (.getfield 84, 3) := by decide +kernel
theorem dX10_spread_13 : decode cX10_spread 13 = .ok (.iload_n 1, 1) := by decide +kernel
theorem dX10_spread_14 : decode cX10_spread 14 = .ok (.iload_n 2, 1) := by decide +kernel
theorem dX10_spread_15 : decode cX10_spread 15 = .ok (.iload_n 3, 1) := by decide +kernel
theorem dX10_spread_16 : decode cX10_spread 16 = .ok (.invokevirtual 237, 3) := by decide +kernel
theorem dX10_spread_19 : decode cX10_spread 19 = .ok (.goto 5, 3) := by decide +kernel
theorem dX10_spread_22 : decode cX10_spread 22 = .ok (.bipush (-2), 2) := by decide +kernel
theorem dX10_spread_24 : decode cX10_spread 24 = .ok (.ireturn, 1) := by decide +kernel
set_option maxRecDepth 20000 in
theorem ggX10_period_X8_readNumbers : GoodIn wsX10_period wsX8_readNumbers := goodIn_r _ [8, 9, 10, 11, 12, 13, 7, 14, 15, 16, 17, 18, 19, 20, 21, 22, 23, 24, 25, 26, 27, 28, 29, 30, 31, 32, 33, 34, 35, 36, 37, 38, 39, 72, 73, 74, 75, 76, 77] (by decide +kernel) (by decide +kernel)
set_option maxRecDepth 20000 in
theorem gX10_period_X8_readNumbers : GoodIn wsX10_period (wsV RX10 240 RX8 yX8_readNumbers wsX8_readNumbers) := goodIn_app (goodIn_of _ (by decide +kernel)) ggX10_period_X8_readNumbers
set_option maxRecDepth 20000 in
theorem ggX10_period_X8_shorten : GoodIn wsX10_period wsX8_shorten := goodIn_r _ [43, 20, 72, 73, 74, 75, 76, 77] (by decide +kernel) (by decide +kernel)
set_option maxRecDepth 20000 in
theorem gX10_period_X8_shorten : GoodIn wsX10_period (wsV RX10 109 RX8 yX8_shorten wsX8_shorten) := goodIn_app (goodIn_of _ (by decide +kernel)) ggX10_period_X8_shorten
set_option maxRecDepth 20000 in
theorem ggX10_period_X2_accepts : GoodIn wsX10_period wsX2_accepts := goodIn_r _ [48] (by decide +kernel) (by decide +kernel)
set_option maxRecDepth 20000 in
theorem gX10_period_X2_accepts : GoodIn wsX10_period (wsV RX10 243 RX2 yX2_accepts wsX2_accepts) := goodIn_app (goodIn_of _ (by decide +kernel)) ggX10_period_X2_accepts
set_option maxRecDepth 20000 in
theorem ggX10_period_X2_become : GoodIn wsX10_period wsX2_become := goodIn_r _ [52, 53, 54, 55, 56, 57, 58, 78, 79] (by decide +kernel) (by decide +kernel)
set_option maxRecDepth 20000 in
theorem gX10_period_X2_become : GoodIn wsX10_period (wsV RX10 247 RX2 yX2_become wsX2_become) := goodIn_app (goodIn_of _ (by decide +kernel)) ggX10_period_X2_become
theorem dX10_period_0 : decode cX10_period 0 = .ok (.aload_n 0, 1) := by decide +kernel
theorem dX10_period_1 : decode cX10_period 1 = .ok (.getfield 10, 3) := by decide +kernel
theorem dX10_period_4 : decode cX10_period 4 = .ok (.aload_n 0, 1) := by decide +kernel
theorem dX10_period_5 : decode cX10_period 5 = .ok (.getfield 72, 3) := by decide +kernel
theorem dX10_period_8 : decode cX10_period 8 = .ok (.invokevirtual 240, 3) := by decide +kernel
theorem dX10_period_11 : decode cX10_period 11 = .ok (.istore_n 1, 1) := by decide +kernel
theorem dX10_period_12 : decode cX10_period 12 = .ok (.aload_n 0, 1) := by decide +kernel
theorem dX10_period_13 : decode cX10_period 13 = .ok (.getfield 10, 3) := by decide +kernel
theorem dX10_period_16 : decode cX10_period 16 = .ok (.iconst 0, 1) := by decide +kernel
theorem dX10_period_17 : decode cX10_period 17 = .ok (.invokevirtual 109, 3) := by decide +kernel
theorem dX10_period_20 : decode cX10_period 20 = .ok (.aload_n 0, 1) := by decide +kernel
theorem dX10_period_21 : decode cX10_period 21 = .ok (.getfield 54, 3) := by decide +kernel
theorem dX10_period_24 : decode cX10_period 24 = .ok (.aload_n 0, 1) := by decide +kernel
theorem dX10_period_25 : decode cX10_period 25 = .ok (.getfield 72, 3) := by decide +kernel
theorem dX10_period_28 : decode cX10_period 28 = .ok (.iload_n 1, 1) := by decide +kernel
theorem dX10_period_29 : decode cX10_period 29 = .ok (.invokevirtual 243, 3) := by decide +kernel
theorem dX10_period_32 : decode cX10_period 32 = .ok (.ifCond .eq 18, 3) := by decide +kernel
theorem dX10_period_35 : decode cX10_period 35 = .ok (.aload_n 0, 1) := by decide +kernel
theorem dX10_period_36 : decode cX10_period 36 = .ok (.getfield 54, 3) := by decide +kernel
theorem dX10_period_39 : decode cX10_period 39 = .ok (.aload_n 0, 1) := by decide +kernel
theorem dX10_period_40 : decode cX10_period 40 = .ok (.getfield 72, 3) := by decide +kernel
theorem dX10_period_43 : decode cX10_period 43 = .ok (.iload_n 1, 1) := by decide +kernel
theorem dX10_period_44 : decode cX10_period 44 = .ok (.invokevirtual 247, 3) := by decide +kernel
theorem dX10_period_47 : decode cX10_period 47 = .ok (.goto 5, 3) := by decide +kernel
theorem dX10_period_50 : decode cX10_period 50 = .ok (.bipush (-2), 2) := by decide +kernel
theorem dX10_period_52 : decode cX10_period 52 = .ok (.ireturn, 1) := by decide +kernel
set_option maxRecDepth 20000 in
theorem ggX10_ofCut_X5_corners : GoodIn wsX10_ofCut wsX5_corners := goodIn_r _ [9, 10, 51, 52, 53, 54, 55, 56, 57, 58, 59] (by decide +kernel) (by decide +kernel)
set_option maxRecDepth 20000 in
theorem gX10_ofCut_X5_corners : GoodIn wsX10_ofCut (wsV RX10 138 RX5 yX5_corners wsX5_corners) := goodIn_app (goodIn_of _ (by decide +kernel)) ggX10_ofCut_X5_corners
set_option maxRecDepth 20000 in
theorem ggX10_ofCut_X5_trianglesAt : GoodIn wsX10_ofCut wsX5_trianglesAt := goodIn_r _ [14, 15, 16, 17, 18, 8, 19, 10, 20, 21, 22, 23, 24, 25, 26, 51, 52, 53, 54, 55, 56, 57, 58, 59] (by decide +kernel) (by decide +kernel)
set_option maxRecDepth 20000 in
theorem gX10_ofCut_X5_trianglesAt : GoodIn wsX10_ofCut (wsV RX10 163 RX5 yX5_trianglesAt wsX5_trianglesAt) := goodIn_app (goodIn_of _ (by decide +kernel)) ggX10_ofCut_X5_trianglesAt
set_option maxRecDepth 20000 in
theorem ggX10_ofCut_X2_become : GoodIn wsX10_ofCut wsX2_become := goodIn_r _ [31, 32, 33, 34, 35, 36, 37, 60, 61] (by decide +kernel) (by decide +kernel)
set_option maxRecDepth 20000 in
theorem gX10_ofCut_X2_become : GoodIn wsX10_ofCut (wsV RX10 247 RX2 yX2_become wsX2_become) := goodIn_app (goodIn_of _ (by decide +kernel)) ggX10_ofCut_X2_become
theorem dX10_ofCut_0 : decode cX10_ofCut 0 = .ok (.iconst 0, 1) := by decide +kernel
theorem dX10_ofCut_1 : decode cX10_ofCut 1 = .ok (.istore_n 1, 1) := by decide +kernel
theorem dX10_ofCut_2 : decode cX10_ofCut 2 = .ok (.iload_n 1, 1) := by decide +kernel
theorem dX10_ofCut_3 : decode cX10_ofCut 3 = .ok (.aload_n 0, 1) := by decide +kernel
theorem dX10_ofCut_4 : decode cX10_ofCut 4 = .ok (.getfield 84, 3) := by decide +kernel
theorem dX10_ofCut_7 : decode cX10_ofCut 7 = .ok (.invokevirtual 138, 3) := by decide +kernel
theorem dX10_ofCut_10 : decode cX10_ofCut 10 = .ok (.if_icmp .ge 27, 3) := by decide +kernel
theorem dX10_ofCut_13 : decode cX10_ofCut 13 = .ok (.aload_n 0, 1) := by decide +kernel
theorem dX10_ofCut_14 : decode cX10_ofCut 14 = .ok (.getfield 72, 3) := by decide +kernel
theorem dX10_ofCut_17 : decode cX10_ofCut 17 = .ok (.iload_n 1, 1) := by decide +kernel
theorem dX10_ofCut_18 : decode cX10_ofCut 18 = .ok (.aload_n 0, 1) := by decide +kernel
theorem dX10_ofCut_19 : decode cX10_ofCut 19 = .ok (.getfield 84, 3) := by decide +kernel
theorem dX10_ofCut_22 : decode cX10_ofCut 22 = .ok (.aload_n 0, 1) := by decide +kernel
theorem dX10_ofCut_23 : decode cX10_ofCut 23 = .ok (.getfield 94, 3) := by decide +kernel
theorem dX10_ofCut_26 : decode cX10_ofCut 26 = .ok (.iload_n 1, 1) := by decide +kernel
theorem dX10_ofCut_27 : decode cX10_ofCut 27 = .ok (.invokevirtual 163, 3) := by decide +kernel
theorem dX10_ofCut_30 : decode cX10_ofCut 30 = .ok (.iastore, 1) := by decide +kernel
theorem dX10_ofCut_31 : decode cX10_ofCut 31 = .ok (.iinc 1 1, 3) := by decide +kernel
theorem dX10_ofCut_34 : decode cX10_ofCut 34 = .ok (.goto (-32), 3) := by decide +kernel
theorem dX10_ofCut_37 : decode cX10_ofCut 37 = .ok (.aload_n 0, 1) := by decide +kernel
theorem dX10_ofCut_38 : decode cX10_ofCut 38 = .ok (.getfield 54, 3) := by decide +kernel
theorem dX10_ofCut_41 : decode cX10_ofCut 41 = .ok (.aload_n 0, 1) := by decide +kernel
theorem dX10_ofCut_42 : decode cX10_ofCut 42 = .ok (.getfield 72, 3) := by decide +kernel
theorem dX10_ofCut_45 : decode cX10_ofCut 45 = .ok (.aload_n 0, 1) := by decide +kernel
theorem dX10_ofCut_46 : decode cX10_ofCut 46 = .ok (.getfield 84, 3) := by decide +kernel
theorem dX10_ofCut_49 : decode cX10_ofCut 49 = .ok (.invokevirtual 138, 3) := by decide +kernel
theorem dX10_ofCut_52 : decode cX10_ofCut 52 = .ok (.invokevirtual 247, 3) := by decide +kernel
theorem dX10_ofCut_55 : decode cX10_ofCut 55 = .ok (.ireturn, 1) := by decide +kernel
set_option maxRecDepth 20000 in
theorem ggX10_of_X2_hasPlace : GoodIn wsX10_of wsX2_hasPlace := goodIn_r _ [6, 7, 34, 35] (by decide +kernel) (by decide +kernel)
set_option maxRecDepth 20000 in
theorem gX10_of_X2_hasPlace : GoodIn wsX10_of (wsV RX10 249 RX2 yX2_hasPlace wsX2_hasPlace) := goodIn_app (goodIn_of _ (by decide +kernel)) ggX10_of_X2_hasPlace
set_option maxRecDepth 20000 in
theorem ggX10_of_X2_at : GoodIn wsX10_of wsX2_at := goodIn_r _ [11, 12, 13, 14, 15, 5, 16, 7, 17, 18, 19, 20, 34, 35] (by decide +kernel) (by decide +kernel)
set_option maxRecDepth 20000 in
theorem gX10_of_X2_at : GoodIn wsX10_of (wsV RX10 252 RX2 yX2_at wsX2_at) := goodIn_app (goodIn_of _ (by decide +kernel)) ggX10_of_X2_at
theorem dX10_of_0 : decode cX10_of 0 = .ok (.aload_n 0, 1) := by decide +kernel
theorem dX10_of_1 : decode cX10_of 1 = .ok (.getfield 54, 3) := by decide +kernel
theorem dX10_of_4 : decode cX10_of 4 = .ok (.iload_n 1, 1) := by decide +kernel
theorem dX10_of_5 : decode cX10_of 5 = .ok (.invokevirtual 249, 3) := by decide +kernel
theorem dX10_of_8 : decode cX10_of 8 = .ok (.ifCond .eq 14, 3) := by decide +kernel
theorem dX10_of_11 : decode cX10_of 11 = .ok (.aload_n 0, 1) := by decide +kernel
theorem dX10_of_12 : decode cX10_of 12 = .ok (.getfield 54, 3) := by decide +kernel
theorem dX10_of_15 : decode cX10_of 15 = .ok (.iload_n 1, 1) := by decide +kernel
theorem dX10_of_16 : decode cX10_of 16 = .ok (.invokevirtual 252, 3) := by decide +kernel
theorem dX10_of_19 : decode cX10_of 19 = .ok (.goto 5, 3) := by decide +kernel
theorem dX10_of_22 : decode cX10_of 22 = .ok (.bipush (-2), 2) := by decide +kernel
theorem dX10_of_24 : decode cX10_of 24 = .ok (.ireturn, 1) := by decide +kernel
set_option maxRecDepth 20000 in
theorem ggX10_along_X2_hasPlace : GoodIn wsX10_along wsX2_hasPlace := goodIn_r _ [7, 8, 39, 40] (by decide +kernel) (by decide +kernel)
set_option maxRecDepth 20000 in
theorem gX10_along_X2_hasPlace : GoodIn wsX10_along (wsV RX10 249 RX2 yX2_hasPlace wsX2_hasPlace) := goodIn_app (goodIn_of _ (by decide +kernel)) ggX10_along_X2_hasPlace
set_option maxRecDepth 20000 in
theorem ggX10_along_X2_entryAt : GoodIn wsX10_along wsX2_entryAt := goodIn_r _ [12, 13, 14, 15, 6, 16, 17, 18, 19, 20, 21, 8, 22, 23, 24, 25, 39, 40] (by decide +kernel) (by decide +kernel)
set_option maxRecDepth 20000 in
theorem gX10_along_X2_entryAt : GoodIn wsX10_along (wsV RX10 257 RX2 yX2_entryAt wsX2_entryAt) := goodIn_app (goodIn_of _ (by decide +kernel)) ggX10_along_X2_entryAt
theorem dX10_along_0 : decode cX10_along 0 = .ok (.aload_n 0, 1) := by decide +kernel
theorem dX10_along_1 : decode cX10_along 1 = .ok (.getfield 54, 3) := by decide +kernel
theorem dX10_along_4 : decode cX10_along 4 = .ok (.iload_n 1, 1) := by decide +kernel
theorem dX10_along_5 : decode cX10_along 5 = .ok (.invokevirtual 249, 3) := by decide +kernel
theorem dX10_along_8 : decode cX10_along 8 = .ok (.ifCond .eq 13, 3) := by decide +kernel
theorem dX10_along_11 : decode cX10_along 11 = .ok (.iload_n 2, 1) := by decide +kernel
theorem dX10_along_12 : decode cX10_along 12 = .ok (.ifCond .lt 9, 3) := by decide +kernel
theorem dX10_along_15 : decode cX10_along 15 = .ok (.iload_n 2, 1) := by decide +kernel
theorem dX10_along_16 : decode cX10_along 16 = .ok (.bipush 12, 2) := by decide +kernel
theorem dX10_along_18 : decode cX10_along 18 = .ok (.if_icmp .le 7, 3) := by decide +kernel
theorem dX10_along_21 : decode cX10_along 21 = .ok (.ldc2_w 255, 3) := by decide +kernel
theorem dX10_along_24 : decode cX10_along 24 = .ok (.lreturn, 1) := by decide +kernel
theorem dX10_along_25 : decode cX10_along 25 = .ok (.aload_n 0, 1) := by decide +kernel
theorem dX10_along_26 : decode cX10_along 26 = .ok (.getfield 54, 3) := by decide +kernel
theorem dX10_along_29 : decode cX10_along 29 = .ok (.iload_n 1, 1) := by decide +kernel
theorem dX10_along_30 : decode cX10_along 30 = .ok (.iload_n 2, 1) := by decide +kernel
