theorem dX10_along_31 : decode cX10_along 31 = .ok (.invokevirtual 257, 3) := by decide +kernel
theorem dX10_along_34 : decode cX10_along 34 = .ok (.lreturn, 1) := by decide +kernel
set_option maxRecDepth 20000 in
theorem ggX10_breaks_X2_breakLength : GoodIn wsX10_breaks wsX2_breakLength := goodIn_r _ [6, 7, 8, 9, 5, 10, 11, 12, 13, 14, 15, 16, 17, 18, 19, 20, 21, 22, 23, 24, 25, 26, 27, 28, 52, 53] (by decide +kernel) (by decide +kernel)
set_option maxRecDepth 20000 in
theorem gX10_breaks_X2_breakLength : GoodIn wsX10_breaks (wsV RX10 261 RX2 yX2_breakLength wsX2_breakLength) := goodIn_app (goodIn_of _ (by decide +kernel)) ggX10_breaks_X2_breakLength
set_option maxRecDepth 20000 in
theorem ggX10_breaks_X2_breakPlace : GoodIn wsX10_breaks wsX2_breakPlace := goodIn_r _ [10, 11, 12, 13, 14, 5, 15, 16, 17, 18, 19, 20, 21, 22, 23, 24, 25, 26, 27, 28, 52, 53] (by decide +kernel) (by decide +kernel)
set_option maxRecDepth 20000 in
theorem gX10_breaks_X2_breakPlace : GoodIn wsX10_breaks (wsV RX10 264 RX2 yX2_breakPlace wsX2_breakPlace) := goodIn_app (goodIn_of _ (by decide +kernel)) ggX10_breaks_X2_breakPlace
set_option maxRecDepth 20000 in
theorem ggX10_breaks_X2_comesBack : GoodIn wsX10_breaks wsX2_comesBack := goodIn_r _ [33, 34, 35, 36, 37, 5, 38, 11, 12, 13, 14, 15, 16, 17, 18, 19, 20, 21, 22, 23, 24, 25, 26, 27, 28, 52, 53] (by decide +kernel) (by decide +kernel)
set_option maxRecDepth 20000 in
theorem gX10_breaks_X2_comesBack : GoodIn wsX10_breaks (wsV RX10 267 RX2 yX2_comesBack wsX2_comesBack) := goodIn_app (goodIn_of _ (by decide +kernel)) ggX10_breaks_X2_comesBack
theorem dX10_breaks_0 : decode cX10_breaks 0 = .ok (.aload_n 0, 1) := by decide +kernel
theorem dX10_breaks_1 : decode cX10_breaks 1 = .ok (.getfield 54, 3) := by decide +kernel
theorem dX10_breaks_4 : decode cX10_breaks 4 = .ok (.invokevirtual 261, 3) := by decide +kernel
theorem dX10_breaks_7 : decode cX10_breaks 7 = .ok (.istore_n 2, 1) := by decide +kernel
theorem dX10_breaks_8 : decode cX10_breaks 8 = .ok (.iload_n 2, 1) := by decide +kernel
theorem dX10_breaks_9 : decode cX10_breaks 9 = .ok (.iconst (-1), 1) := by decide +kernel
theorem dX10_breaks_10 : decode cX10_breaks 10 = .ok (.if_icmp .ne 5, 3) := by decide +kernel
theorem dX10_breaks_13 : decode cX10_breaks 13 = .ok (.iconst (-1), 1) := by decide +kernel
theorem dX10_breaks_14 : decode cX10_breaks 14 = .ok (.ireturn, 1) := by decide +kernel
theorem dX10_breaks_15 : decode cX10_breaks 15 = .ok (.iload_n 1, 1) := by decide +kernel
theorem dX10_breaks_16 : decode cX10_breaks 16 = .ok (.tableswitch 56 0 2 #[28, 30, 39], 28) := by decide +kernel
theorem dX10_breaks_44 : decode cX10_breaks 44 = .ok (.iload_n 2, 1) := by decide +kernel
theorem dX10_breaks_45 : decode cX10_breaks 45 = .ok (.ireturn, 1) := by decide +kernel
theorem dX10_breaks_46 : decode cX10_breaks 46 = .ok (.aload_n 0, 1) := by decide +kernel
theorem dX10_breaks_47 : decode cX10_breaks 47 = .ok (.getfield 54, 3) := by decide +kernel
theorem dX10_breaks_50 : decode cX10_breaks 50 = .ok (.iload_n 2, 1) := by decide +kernel
theorem dX10_breaks_51 : decode cX10_breaks 51 = .ok (.invokevirtual 264, 3) := by decide +kernel
theorem dX10_breaks_54 : decode cX10_breaks 54 = .ok (.ireturn, 1) := by decide +kernel
theorem dX10_breaks_55 : decode cX10_breaks 55 = .ok (.aload_n 0, 1) := by decide +kernel
theorem dX10_breaks_56 : decode cX10_breaks 56 = .ok (.getfield 54, 3) := by decide +kernel
theorem dX10_breaks_59 : decode cX10_breaks 59 = .ok (.iload_n 2, 1) := by decide +kernel
theorem dX10_breaks_60 : decode cX10_breaks 60 = .ok (.invokevirtual 267, 3) := by decide +kernel
theorem dX10_breaks_63 : decode cX10_breaks 63 = .ok (.ifCond .eq 7, 3) := by decide +kernel
theorem dX10_breaks_66 : decode cX10_breaks 66 = .ok (.iconst 1, 1) := by decide +kernel
theorem dX10_breaks_67 : decode cX10_breaks 67 = .ok (.goto 4, 3) := by decide +kernel
theorem dX10_breaks_70 : decode cX10_breaks 70 = .ok (.iconst 0, 1) := by decide +kernel
theorem dX10_breaks_71 : decode cX10_breaks 71 = .ok (.ireturn, 1) := by decide +kernel
theorem dX10_breaks_72 : decode cX10_breaks 72 = .ok (.iconst (-1), 1) := by decide +kernel
theorem dX10_breaks_73 : decode cX10_breaks 73 = .ok (.ireturn, 1) := by decide +kernel
set_option maxRecDepth 20000 in
theorem ggX10_growth_X2_growthOfRound : GoodIn wsX10_growth wsX2_growthOfRound := goodIn_r _ [6, 7, 8, 9, 10, 5, 11, 12, 13, 14, 15, 16, 17, 18, 19, 20, 21, 22, 23, 24, 38, 39] (by decide +kernel) (by decide +kernel)
set_option maxRecDepth 20000 in
theorem gX10_growth_X2_growthOfRound : GoodIn wsX10_growth (wsV RX10 270 RX2 yX2_growthOfRound wsX2_growthOfRound) := goodIn_app (goodIn_of _ (by decide +kernel)) ggX10_growth_X2_growthOfRound
theorem dX10_growth_0 : decode cX10_growth 0 = .ok (.aload_n 0, 1) := by decide +kernel
theorem dX10_growth_1 : decode cX10_growth 1 = .ok (.getfield 54, 3) := by decide +kernel
theorem dX10_growth_4 : decode cX10_growth 4 = .ok (.invokevirtual 270, 3) := by decide +kernel
theorem dX10_growth_7 : decode cX10_growth 7 = .ok (.lreturn, 1) := by decide +kernel
set_option maxRecDepth 20000 in
theorem ggX10_glue_X2_hasPlace : GoodIn wsX10_glue wsX2_hasPlace := goodIn_r _ [6, 7, 44, 45] (by decide +kernel) (by decide +kernel)
set_option maxRecDepth 20000 in
theorem gX10_glue_X2_hasPlace : GoodIn wsX10_glue (wsV RX10 249 RX2 yX2_hasPlace wsX2_hasPlace) := goodIn_app (goodIn_of _ (by decide +kernel)) ggX10_glue_X2_hasPlace
set_option maxRecDepth 20000 in
theorem ggX10_glue_X2_canGlue : GoodIn wsX10_glue wsX2_canGlue := goodIn_r _ [11, 7, 12, 13, 14, 5, 15, 16, 17, 18, 19, 20, 21, 22, 23, 24, 44, 45] (by decide +kernel) (by decide +kernel)
set_option maxRecDepth 20000 in
theorem gX10_glue_X2_canGlue : GoodIn wsX10_glue (wsV RX10 274 RX2 yX2_canGlue wsX2_canGlue) := goodIn_app (goodIn_of _ (by decide +kernel)) ggX10_glue_X2_canGlue
set_option maxRecDepth 20000 in
theorem ggX10_glue_X2_glueBehind : GoodIn wsX10_glue wsX2_glueBehind := goodIn_r _ [28, 7, 16, 29, 3, 4, 5, 6, 30, 9, 10, 11, 12, 13, 14, 15, 17, 18, 19, 20, 21, 22, 23, 24, 44, 45] (by decide +kernel) (by decide +kernel)
set_option maxRecDepth 20000 in
theorem gX10_glue_X2_glueBehind : GoodIn wsX10_glue (wsV RX10 277 RX2 yX2_glueBehind wsX2_glueBehind) := goodIn_app (goodIn_of _ (by decide +kernel)) ggX10_glue_X2_glueBehind
theorem dX10_glue_0 : decode cX10_glue 0 = .ok (.aload_n 0, 1) := by decide +kernel
theorem dX10_glue_1 : decode cX10_glue 1 = .ok (.getfield 54, 3) := by decide +kernel
theorem dX10_glue_4 : decode cX10_glue 4 = .ok (.iload_n 1, 1) := by decide +kernel
theorem dX10_glue_5 : decode cX10_glue 5 = .ok (.invokevirtual 249, 3) := by decide +kernel
theorem dX10_glue_8 : decode cX10_glue 8 = .ok (.ifCond .ne 6, 3) := by decide +kernel
theorem dX10_glue_11 : decode cX10_glue 11 = .ok (.bipush (-2), 2) := by decide +kernel
theorem dX10_glue_13 : decode cX10_glue 13 = .ok (.ireturn, 1) := by decide +kernel
theorem dX10_glue_14 : decode cX10_glue 14 = .ok (.aload_n 0, 1) := by decide +kernel
theorem dX10_glue_15 : decode cX10_glue 15 = .ok (.getfield 54, 3) := by decide +kernel
theorem dX10_glue_18 : decode cX10_glue 18 = .ok (.iload_n 1, 1) := by decide +kernel
theorem dX10_glue_19 : decode cX10_glue 19 = .ok (.invokevirtual 274, 3) := by decide +kernel
theorem dX10_glue_22 : decode cX10_glue 22 = .ok (.ifCond .eq 14, 3) := by decide +kernel
theorem dX10_glue_25 : decode cX10_glue 25 = .ok (.aload_n 0, 1) := by decide +kernel
theorem dX10_glue_26 : decode cX10_glue 26 = .ok (.getfield 54, 3) := by decide +kernel
theorem dX10_glue_29 : decode cX10_glue 29 = .ok (.iload_n 1, 1) := by decide +kernel
theorem dX10_glue_30 : decode cX10_glue 30 = .ok (.invokevirtual 277, 3) := by decide +kernel
theorem dX10_glue_33 : decode cX10_glue 33 = .ok (.goto 5, 3) := by decide +kernel
theorem dX10_glue_36 : decode cX10_glue 36 = .ok (.bipush (-3), 2) := by decide +kernel
theorem dX10_glue_38 : decode cX10_glue 38 = .ok (.ireturn, 1) := by decide +kernel
set_option maxRecDepth 20000 in
theorem ggX10_cutOff_X2_hasPlace : GoodIn wsX10_cutOff wsX2_hasPlace := goodIn_r _ [6, 7, 44, 45] (by decide +kernel) (by decide +kernel)
set_option maxRecDepth 20000 in
theorem gX10_cutOff_X2_hasPlace : GoodIn wsX10_cutOff (wsV RX10 249 RX2 yX2_hasPlace wsX2_hasPlace) := goodIn_app (goodIn_of _ (by decide +kernel)) ggX10_cutOff_X2_hasPlace
set_option maxRecDepth 20000 in
theorem ggX10_cutOff_X2_canLose : GoodIn wsX10_cutOff wsX2_canLose := goodIn_r _ [11, 7, 12, 13, 14, 5, 15, 16, 17, 18, 19, 20, 21, 22, 23, 24, 44, 45] (by decide +kernel) (by decide +kernel)
set_option maxRecDepth 20000 in
theorem gX10_cutOff_X2_canLose : GoodIn wsX10_cutOff (wsV RX10 280 RX2 yX2_canLose wsX2_canLose) := goodIn_app (goodIn_of _ (by decide +kernel)) ggX10_cutOff_X2_canLose
set_option maxRecDepth 20000 in
theorem ggX10_cutOff_X2_lose : GoodIn wsX10_cutOff wsX2_lose := goodIn_r _ [28, 7, 16, 29, 3, 4, 5, 6, 30, 9, 10, 11, 12, 13, 14, 15, 17, 18, 19, 20, 21, 22, 23, 24, 44, 45] (by decide +kernel) (by decide +kernel)
set_option maxRecDepth 20000 in
theorem gX10_cutOff_X2_lose : GoodIn wsX10_cutOff (wsV RX10 283 RX2 yX2_lose wsX2_lose) := goodIn_app (goodIn_of _ (by decide +kernel)) ggX10_cutOff_X2_lose
theorem dX10_cutOff_0 : decode cX10_cutOff 0 = .ok (.aload_n 0, 1) := by decide +kernel
theorem dX10_cutOff_1 : decode cX10_cutOff 1 = .ok (.getfield 54, 3) := by decide +kernel
theorem dX10_cutOff_4 : decode cX10_cutOff 4 = .ok (.iload_n 1, 1) := by decide +kernel
theorem dX10_cutOff_5 : decode cX10_cutOff 5 = .ok (.invokevirtual 249, 3) := by decide +kernel
theorem dX10_cutOff_8 : decode cX10_cutOff 8 = .ok (.ifCond .ne 6, 3) := by decide +kernel
theorem dX10_cutOff_11 : decode cX10_cutOff 11 = .ok (.bipush (-2), 2) := by decide +kernel
theorem dX10_cutOff_13 : decode cX10_cutOff 13 = .ok (.ireturn, 1) := by decide +kernel
theorem dX10_cutOff_14 : decode cX10_cutOff 14 = .ok (.aload_n 0, 1) := by decide +kernel
theorem dX10_cutOff_15 : decode cX10_cutOff 15 = .ok (.getfield 54, 3) := by decide +kernel
theorem dX10_cutOff_18 : decode cX10_cutOff 18 = .ok (.iload_n 1, 1) := by decide +kernel
theorem dX10_cutOff_19 : decode cX10_cutOff 19 = .ok (.invokevirtual 280, 3) := by decide +kernel
theorem dX10_cutOff_22 : decode cX10_cutOff 22 = .ok (.ifCond .eq 14, 3) := by decide +kernel
theorem dX10_cutOff_25 : decode cX10_cutOff 25 = .ok (.aload_n 0, 1) := by decide +kernel
theorem dX10_cutOff_26 : decode cX10_cutOff 26 = .ok (.getfield 54, 3) := by decide +kernel
theorem dX10_cutOff_29 : decode cX10_cutOff 29 = .ok (.iload_n 1, 1) := by decide +kernel
theorem dX10_cutOff_30 : decode cX10_cutOff 30 = .ok (.invokevirtual 283, 3) := by decide +kernel
theorem dX10_cutOff_33 : decode cX10_cutOff 33 = .ok (.goto 5, 3) := by decide +kernel
theorem dX10_cutOff_36 : decode cX10_cutOff 36 = .ok (.bipush (-4), 2) := by decide +kernel
theorem dX10_cutOff_38 : decode cX10_cutOff 38 = .ok (.ireturn, 1) := by decide +kernel
set_option maxRecDepth 20000 in
theorem ggX10_core_X2_loseAll : GoodIn wsX10_core wsX2_loseAll := goodIn_r _ [6, 7, 8, 9, 5, 10, 11, 12, 13, 14, 15, 16, 17, 18, 19, 20, 21, 22, 23, 24, 25, 26, 27, 28, 29, 30, 31, 32, 33, 34, 35, 36, 50, 51] (by decide +kernel) (by decide +kernel)
set_option maxRecDepth 20000 in
theorem gX10_core_X2_loseAll : GoodIn wsX10_core (wsV RX10 286 RX2 yX2_loseAll wsX2_loseAll) := goodIn_app (goodIn_of _ (by decide +kernel)) ggX10_core_X2_loseAll
theorem dX10_core_0 : decode cX10_core 0 = .ok (.aload_n 0, 1) := by decide +kernel
theorem dX10_core_1 : decode cX10_core 1 = .ok (.getfield 54, 3) := by decide +kernel
theorem dX10_core_4 : decode cX10_core 4 = .ok (.invokevirtual 286, 3) := by decide +kernel
theorem dX10_core_7 : decode cX10_core 7 = .ok (.ireturn, 1) := by decide +kernel
set_option maxRecDepth 20000 in
theorem ggX10_see_X7_canTell : GoodIn wsX10_see wsX7_canTell := goodIn_r _ [6, 7, 46, 47, 48, 49, 50, 51, 52, 53, 54, 55, 56, 57] (by decide +kernel) (by decide +kernel)
set_option maxRecDepth 20000 in
theorem gX10_see_X7_canTell : GoodIn wsX10_see (wsV RX10 289 RX7 yX7_canTell wsX7_canTell) := goodIn_app (goodIn_of _ (by decide +kernel)) ggX10_see_X7_canTell
set_option maxRecDepth 20000 in
theorem ggX10_see_X10_areCorners : GoodIn wsX10_see wsX10_areCorners := goodIn_r _ [12, 13, 14, 15, 16, 17, 18, 19, 33, 34, 35, 36, 37, 38, 39, 40, 41, 42, 43, 44, 45, 58, 59, 60, 61, 62, 63, 64, 65, 66] (by decide +kernel) (by decide +kernel)
set_option maxRecDepth 20000 in
theorem gX10_see_X10_areCorners : GoodIn wsX10_see (wsV RX10 152 RX10 yX10_areCorners wsX10_areCorners) := goodIn_app (goodIn_of _ (by decide +kernel)) ggX10_see_X10_areCorners
set_option maxRecDepth 20000 in
theorem ggX10_see_X10_isValue : GoodIn wsX10_see wsX10_isValue := goodIn_r _ [22] (by decide +kernel) (by decide +kernel)
set_option maxRecDepth 20000 in
theorem gX10_see_X10_isValue : GoodIn wsX10_see (va_wsS RX10 292 yX10_isValue wsX10_isValue) := goodIn_app (goodIn_of _ (by decide +kernel)) ggX10_see_X10_isValue
set_option maxRecDepth 20000 in
theorem ggX10_see_X7_add : GoodIn wsX10_see wsX7_add := goodIn_r _ [26, 27, 28, 29, 30, 31, 32, 7, 46, 47, 48, 49, 50, 51, 52, 53, 54, 55, 56, 57] (by decide +kernel) (by decide +kernel)
set_option maxRecDepth 20000 in
theorem gX10_see_X7_add : GoodIn wsX10_see (wsV RX10 295 RX7 yX7_add wsX7_add) := goodIn_app (goodIn_of _ (by decide +kernel)) ggX10_see_X7_add
theorem dX10_see_0 : decode cX10_see 0 = .ok (.aload_n 0, 1) := by decide +kernel
theorem dX10_see_1 : decode cX10_see 1 = .ok (.getfield 61, 3) := by decide +kernel
theorem dX10_see_4 : decode cX10_see 4 = .ok (.iload_n 1, 1) := by decide +kernel
theorem dX10_see_5 : decode cX10_see 5 = .ok (.invokevirtual 289, 3) := by decide +kernel
theorem dX10_see_8 : decode cX10_see 8 = .ok (.ifCond .eq 25, 3) := by decide +kernel
theorem dX10_see_11 : decode cX10_see 11 = .ok (.aload_n 0, 1) := by decide +kernel
theorem dX10_see_12 : decode cX10_see 12 = .ok (.iload_n 2, 1) := by decide +kernel
theorem dX10_see_13 : decode cX10_see 13 = .ok (.iload_n 3, 1) := by decide +kernel
theorem dX10_see_14 : decode cX10_see 14 = .ok (.invokevirtual 152, 3) := by decide +kernel
theorem dX10_see_17 : decode cX10_see 17 = .ok (.ifCond .eq 16, 3) := by decide +kernel
theorem dX10_see_20 : decode cX10_see 20 = .ok (.iload_n 2, 1) := by decide +kernel
theorem dX10_see_21 : decode cX10_see 21 = .ok (.iload_n 3, 1) := by decide +kernel
theorem dX10_see_22 : decode cX10_see 22 = .ok (.if_icmp .eq 11, 3) := by decide +kernel
theorem dX10_see_25 : decode cX10_see 25 = .ok (.iload 4, 2) := by decide +kernel
theorem dX10_see_27 : decode cX10_see 27 = .ok (.invokestatic 292, 3) := by decide +kernel
theorem dX10_see_30 : decode cX10_see 30 = .ok (.ifCond .ne 6, 3) := by decide +kernel
theorem dX10_see_33 : decode cX10_see 33 = .ok (.bipush (-2), 2) := by decide +kernel
theorem dX10_see_35 : decode cX10_see 35 = .ok (.ireturn, 1) := by decide +kernel
theorem dX10_see_36 : decode cX10_see 36 = .ok (.aload_n 0, 1) := by decide +kernel
theorem dX10_see_37 : decode cX10_see 37 = .ok (.getfield 61, 3) := by decide +kernel
theorem dX10_see_40 : decode cX10_see 40 = .ok (.iload_n 1, 1) := by decide +kernel
theorem dX10_see_41 : decode cX10_see 41 = .ok (.iload_n 2, 1) := by decide +kernel
theorem dX10_see_42 : decode cX10_see 42 = .ok (.iload_n 3, 1) := by decide +kernel
theorem dX10_see_43 : decode cX10_see 43 = .ok (.iload 4, 2) := by decide +kernel
theorem dX10_see_45 : decode cX10_see 45 = .ok (.invokevirtual 295, 3) := by decide +kernel
theorem dX10_see_48 : decode cX10_see 48 = .ok (.ireturn, 1) := by decide +kernel
set_option maxRecDepth 20000 in
theorem ggX10_right_X7_canTell : GoodIn wsX10_right wsX7_canTell := goodIn_r _ [6, 7, 44, 45, 46, 47, 48, 49, 50, 51, 52, 53, 54, 55] (by decide +kernel) (by decide +kernel)
set_option maxRecDepth 20000 in
theorem gX10_right_X7_canTell : GoodIn wsX10_right (wsV RX10 289 RX7 yX7_canTell wsX7_canTell) := goodIn_app (goodIn_of _ (by decide +kernel)) ggX10_right_X7_canTell
set_option maxRecDepth 20000 in
theorem ggX10_right_X7_wasSeenBefore : GoodIn wsX10_right wsX7_wasSeenBefore := goodIn_r _ [11, 12, 13, 14, 15, 5, 16, 17, 44, 45, 46, 47, 48, 49, 50, 51, 52, 53, 54, 55] (by decide +kernel) (by decide +kernel)
set_option maxRecDepth 20000 in
theorem gX10_right_X7_wasSeenBefore : GoodIn wsX10_right (wsV RX10 299 RX7 yX7_wasSeenBefore wsX7_wasSeenBefore) := goodIn_app (goodIn_of _ (by decide +kernel)) ggX10_right_X7_wasSeenBefore
set_option maxRecDepth 20000 in
theorem ggX10_right_X10_isValue : GoodIn wsX10_right wsX10_isValue := goodIn_r _ [21] (by decide +kernel) (by decide +kernel)
set_option maxRecDepth 20000 in
theorem gX10_right_X10_isValue : GoodIn wsX10_right (va_wsS RX10 292 yX10_isValue wsX10_isValue) := goodIn_app (goodIn_of _ (by decide +kernel)) ggX10_right_X10_isValue
set_option maxRecDepth 20000 in
theorem ggX10_right_X7_putRight : GoodIn wsX10_right wsX7_putRight := goodIn_r _ [25, 26, 27, 28, 29, 7, 30, 13, 14, 15, 5, 16, 17, 44, 45, 46, 47, 48, 49, 50, 51, 52, 53, 54, 55] (by decide +kernel) (by decide +kernel)
set_option maxRecDepth 20000 in
theorem gX10_right_X7_putRight : GoodIn wsX10_right (wsV RX10 302 RX7 yX7_putRight wsX7_putRight) := goodIn_app (goodIn_of _ (by decide +kernel)) ggX10_right_X7_putRight
theorem dX10_right_0 : decode cX10_right 0 = .ok (.aload_n 0, 1) := by decide +kernel
theorem dX10_right_1 : decode cX10_right 1 = .ok (.getfield 61, 3) := by decide +kernel
theorem dX10_right_4 : decode cX10_right 4 = .ok (.iload_n 1, 1) := by decide +kernel
theorem dX10_right_5 : decode cX10_right 5 = .ok (.invokevirtual 289, 3) := by decide +kernel
theorem dX10_right_8 : decode cX10_right 8 = .ok (.ifCond .eq 22, 3) := by decide +kernel
theorem dX10_right_11 : decode cX10_right 11 = .ok (.aload_n 0, 1) := by decide +kernel
theorem dX10_right_12 : decode cX10_right 12 = .ok (.getfield 61, 3) := by decide +kernel
theorem dX10_right_15 : decode cX10_right 15 = .ok (.iload_n 1, 1) := by decide +kernel
theorem dX10_right_16 : decode cX10_right 16 = .ok (.iload_n 2, 1) := by decide +kernel
theorem dX10_right_17 : decode cX10_right 17 = .ok (.invokevirtual 299, 3) := by decide +kernel
theorem dX10_right_20 : decode cX10_right 20 = .ok (.ifCond .eq 10, 3) := by decide +kernel
theorem dX10_right_23 : decode cX10_right 23 = .ok (.iload_n 3, 1) := by decide +kernel
theorem dX10_right_24 : decode cX10_right 24 = .ok (.invokestatic 292, 3) := by decide +kernel
theorem dX10_right_27 : decode cX10_right 27 = .ok (.ifCond .ne 6, 3) := by decide +kernel
theorem dX10_right_30 : decode cX10_right 30 = .ok (.bipush (-2), 2) := by decide +kernel
theorem dX10_right_32 : decode cX10_right 32 = .ok (.ireturn, 1) := by decide +kernel
theorem dX10_right_33 : decode cX10_right 33 = .ok (.aload_n 0, 1) := by decide +kernel
theorem dX10_right_34 : decode cX10_right 34 = .ok (.getfield 61, 3) := by decide +kernel
theorem dX10_right_37 : decode cX10_right 37 = .ok (.iload_n 1, 1) := by decide +kernel
theorem dX10_right_38 : decode cX10_right 38 = .ok (.iload_n 2, 1) := by decide +kernel
theorem dX10_right_39 : decode cX10_right 39 = .ok (.iload_n 3, 1) := by decide +kernel
theorem dX10_right_40 : decode cX10_right 40 = .ok (.invokevirtual 302, 3) := by decide +kernel
theorem dX10_right_43 : decode cX10_right 43 = .ok (.ireturn, 1) := by decide +kernel
set_option maxRecDepth 20000 in
theorem ggX10_fit_X10_isStep : GoodIn wsX10_fit wsX10_isStep := goodIn_r _ [7] (by decide +kernel) (by decide +kernel)
set_option maxRecDepth 20000 in
theorem gX10_fit_X10_isStep : GoodIn wsX10_fit (va_wsS RX10 305 yX10_isStep wsX10_isStep) := goodIn_app (goodIn_of _ (by decide +kernel)) ggX10_fit_X10_isStep
set_option maxRecDepth 20000 in
theorem ggX10_fit_X3_gather : GoodIn wsX10_fit wsX3_gather := goodIn_r _ [12, 13, 14, 15, 16, 17, 18, 19, 20, 21, 22, 23, 24, 25, 26, 27, 28, 29, 30, 31, 32, 33, 34, 35, 36, 37, 38, 39, 40, 41, 42, 43, 44, 45, 46, 47, 48, 49, 50, 51, 52, 53, 54, 55, 56, 57, 58, 59, 60, 61, 62, 63, 64, 65, 66, 67, 68, 69, 70, 71, 72, 73, 74, 75, 76, 77, 78, 79, 80, 102, 103, 104, 105, 106, 107, 108, 109, 110, 111, 112, 113, 114, 115, 116, 117, 118, 119, 120, 121, 122, 123, 124, 125] (by decide +kernel) (by decide +kernel)
set_option maxRecDepth 20000 in
theorem gX10_fit_X3_gather : GoodIn wsX10_fit (wsV RX10 308 RX3 yX3_gather wsX3_gather) := goodIn_app (goodIn_of _ (by decide +kernel)) ggX10_fit_X3_gather
set_option maxRecDepth 20000 in
theorem ggX10_fit_X3_size : GoodIn wsX10_fit wsX3_size := goodIn_r _ [84, 13, 102, 103, 104] (by decide +kernel) (by decide +kernel)
set_option maxRecDepth 20000 in
theorem gX10_fit_X3_size : GoodIn wsX10_fit (wsV RX10 311 RX3 yX3_size wsX3_size) := goodIn_app (goodIn_of _ (by decide +kernel)) ggX10_fit_X3_size
set_option maxRecDepth 20000 in
theorem ggX10_fit_X3_leastNumber : GoodIn wsX10_fit wsX3_leastNumber := goodIn_r _ [88, 13, 14, 102, 103, 104] (by decide +kernel) (by decide +kernel)
set_option maxRecDepth 20000 in
theorem gX10_fit_X3_leastNumber : GoodIn wsX10_fit (wsV RX10 312 RX3 yX3_leastNumber wsX3_leastNumber) := goodIn_app (goodIn_of _ (by decide +kernel)) ggX10_fit_X3_leastNumber
theorem dX10_fit_0 : decode cX10_fit 0 = .ok (.iload_n 1, 1) := by decide +kernel
theorem dX10_fit_1 : decode cX10_fit 1 = .ok (.invokestatic 305, 3) := by decide +kernel
theorem dX10_fit_4 : decode cX10_fit 4 = .ok (.ifCond .eq 12, 3) := by decide +kernel
theorem dX10_fit_7 : decode cX10_fit 7 = .ok (.iload_n 2, 1) := by decide +kernel
theorem dX10_fit_8 : decode cX10_fit 8 = .ok (.ifCond .lt 8, 3) := by decide +kernel
theorem dX10_fit_11 : decode cX10_fit 11 = .ok (.iload_n 2, 1) := by decide +kernel
theorem dX10_fit_12 : decode cX10_fit 12 = .ok (.iconst 1, 1) := by decide +kernel
theorem dX10_fit_13 : decode cX10_fit 13 = .ok (.if_icmp .le 6, 3) := by decide +kernel
theorem dX10_fit_16 : decode cX10_fit 16 = .ok (.bipush (-2), 2) := by decide +kernel
theorem dX10_fit_18 : decode cX10_fit 18 = .ok (.ireturn, 1) := by decide +kernel
theorem dX10_fit_19 : decode cX10_fit 19 = .ok (.aload_n 0, 1) := by decide +kernel
theorem dX10_fit_20 : decode cX10_fit 20 = .ok (.getfield 68, 3) := by decide +kernel
theorem dX10_fit_23 : decode cX10_fit 23 = .ok (.aload_n 0, 1) := by decide +kernel
theorem dX10_fit_24 : decode cX10_fit 24 = .ok (.getfield 84, 3) := by decide +kernel
theorem dX10_fit_27 : decode cX10_fit 27 = .ok (.aload_n 0, 1) := by decide +kernel
theorem dX10_fit_28 : decode cX10_fit 28 = .ok (.getfield 61, 3) := by decide +kernel
theorem dX10_fit_31 : decode cX10_fit 31 = .ok (.iload_n 1, 1) := by decide +kernel
theorem dX10_fit_32 : decode cX10_fit 32 = .ok (.invokevirtual 308, 3) := by decide +kernel
theorem dX10_fit_35 : decode cX10_fit 35 = .ok (.iload_n 2, 1) := by decide +kernel
theorem dX10_fit_36 : decode cX10_fit 36 = .ok (.ifCond .ne 13, 3) := by decide +kernel
theorem dX10_fit_39 : decode cX10_fit 39 = .ok (.aload_n 0, 1) := by decide +kernel
theorem dX10_fit_40 : decode cX10_fit 40 = .ok (.getfield 68, 3) := by decide +kernel
theorem dX10_fit_43 : decode cX10_fit 43 = .ok (.invokevirtual 311, 3) := by decide +kernel
theorem dX10_fit_46 : decode cX10_fit 46 = .ok (.goto 10, 3) := by decide +kernel
theorem dX10_fit_49 : decode cX10_fit 49 = .ok (.aload_n 0, 1) := by decide +kernel
theorem dX10_fit_50 : decode cX10_fit 50 = .ok (.getfield 68, 3) := by decide +kernel
theorem dX10_fit_53 : decode cX10_fit 53 = .ok (.invokevirtual 312, 3) := by decide +kernel
theorem dX10_fit_56 : decode cX10_fit 56 = .ok (.ireturn, 1) := by decide +kernel
set_option maxRecDepth 20000 in
theorem ggX10_surely_X10_isStep : GoodIn wsX10_surely wsX10_isStep := goodIn_r _ [7] (by decide +kernel) (by decide +kernel)
set_option maxRecDepth 20000 in
theorem gX10_surely_X10_isStep : GoodIn wsX10_surely (va_wsS RX10 305 yX10_isStep wsX10_isStep) := goodIn_app (goodIn_of _ (by decide +kernel)) ggX10_surely_X10_isStep
set_option maxRecDepth 20000 in
theorem ggX10_surely_X10_areCorners : GoodIn wsX10_surely wsX10_areCorners := goodIn_r _ [11, 1, 12, 13, 14, 15, 16, 17, 104, 105, 106, 107, 108, 109, 110, 111, 112, 113, 114, 115, 116, 117, 118, 119, 120, 121, 122, 123, 124, 125] (by decide +kernel) (by decide +kernel)
set_option maxRecDepth 20000 in
theorem gX10_surely_X10_areCorners : GoodIn wsX10_surely (wsV RX10 152 RX10 yX10_areCorners wsX10_areCorners) := goodIn_app (goodIn_of _ (by decide +kernel)) ggX10_surely_X10_areCorners
set_option maxRecDepth 20000 in
theorem ggX10_surely_X5_lineOf : GoodIn wsX10_surely wsX5_lineOf := goodIn_r _ [21, 22, 23, 13, 14, 15, 16, 17, 117, 118, 119, 120, 121, 122, 123, 124, 125] (by decide +kernel) (by decide +kernel)
set_option maxRecDepth 20000 in
theorem gX10_surely_X5_lineOf : GoodIn wsX10_surely (wsV RX10 173 RX5 yX5_lineOf wsX5_lineOf) := goodIn_app (goodIn_of _ (by decide +kernel)) ggX10_surely_X5_lineOf
set_option maxRecDepth 20000 in
theorem ggX10_surely_X3_gather : GoodIn wsX10_surely wsX3_gather := goodIn_r _ [28, 29, 30, 31, 32, 33, 34, 35, 36, 37, 38, 39, 40, 41, 42, 43, 44, 45, 46, 47, 48, 49, 50, 15, 51, 52, 53, 54, 55, 56, 57, 58, 59, 60, 61, 62, 63, 64, 65, 66, 67, 68, 69, 70, 71, 72, 73, 74, 75, 76, 77, 78, 79, 80, 81, 82, 83, 23, 13, 14, 16, 17, 84, 85, 86, 87, 88, 89, 90, 126, 127, 128, 129, 130, 131, 132, 133, 134, 135, 136, 137, 138, 139, 140, 117, 118, 119, 120, 121, 122, 123, 124, 125] (by decide +kernel) (by decide +kernel)
set_option maxRecDepth 20000 in
theorem gX10_surely_X3_gather : GoodIn wsX10_surely (wsV RX10 308 RX3 yX3_gather wsX3_gather) := goodIn_app (goodIn_of _ (by decide +kernel)) ggX10_surely_X3_gather
set_option maxRecDepth 20000 in
theorem ggX10_surely_X3_howSure : GoodIn wsX10_surely wsX3_howSure := goodIn_r _ [94, 29, 30, 53, 54, 55, 15, 56, 57, 58, 59, 60, 61, 52, 95, 96, 97, 98, 99, 100, 101, 102, 103, 126, 127, 128, 117, 118, 119, 120, 121, 122, 123, 124, 125] (by decide +kernel) (by decide +kernel)
set_option maxRecDepth 20000 in
theorem gX10_surely_X3_howSure : GoodIn wsX10_surely (wsV RX10 315 RX3 yX3_howSure wsX3_howSure) := goodIn_app (goodIn_of _ (by decide +kernel)) ggX10_surely_X3_howSure
theorem dX10_surely_0 : decode cX10_surely 0 = .ok (.iload_n 3, 1) := by decide +kernel
theorem dX10_surely_1 : decode cX10_surely 1 = .ok (.invokestatic 305, 3) := by decide +kernel
theorem dX10_surely_4 : decode cX10_surely 4 = .ok (.ifCond .eq 25, 3) := by decide +kernel
theorem dX10_surely_7 : decode cX10_surely 7 = .ok (.aload_n 0, 1) := by decide +kernel
theorem dX10_surely_8 : decode cX10_surely 8 = .ok (.iload_n 1, 1) := by decide +kernel
theorem dX10_surely_9 : decode cX10_surely 9 = .ok (.iload_n 2, 1) := by decide +kernel
theorem dX10_surely_10 : decode cX10_surely 10 = .ok (.invokevirtual 152, 3) := by decide +kernel
theorem dX10_surely_13 : decode cX10_surely 13 = .ok (.ifCond .eq 16, 3) := by decide +kernel
theorem dX10_surely_16 : decode cX10_surely 16 = .ok (.aload_n 0, 1) := by decide +kernel
theorem dX10_surely_17 : decode cX10_surely 17 = .ok (.getfield 84, 3) := by decide +kernel
theorem dX10_surely_20 : decode cX10_surely 20 = .ok (.iload_n 1, 1) := by decide +kernel
theorem dX10_surely_21 : decode cX10_surely 21 = .ok (.iload_n 2, 1) := by decide +kernel
theorem dX10_surely_22 : decode cX10_surely 22 = .ok (.invokevirtual 173, 3) := by decide +kernel
theorem dX10_surely_25 : decode cX10_surely 25 = .ok (.iconst (-1), 1) := by decide +kernel
theorem dX10_surely_26 : decode cX10_surely 26 = .ok (.if_icmp .ne 6, 3) := by decide +kernel
theorem dX10_surely_29 : decode cX10_surely 29 = .ok (.bipush (-2), 2) := by decide +kernel
theorem dX10_surely_31 : decode cX10_surely 31 = .ok (.ireturn, 1) := by decide +kernel
theorem dX10_surely_32 : decode cX10_surely 32 = .ok (.aload_n 0, 1) := by decide +kernel
theorem dX10_surely_33 : decode cX10_surely 33 = .ok (.getfield 68, 3) := by decide +kernel
theorem dX10_surely_36 : decode cX10_surely 36 = .ok (.aload_n 0, 1) := by decide +kernel
theorem dX10_surely_37 : decode cX10_surely 37 = .ok (.getfield 84, 3) := by decide +kernel
theorem dX10_surely_40 : decode cX10_surely 40 = .ok (.aload_n 0, 1) := by decide +kernel
theorem dX10_surely_41 : decode cX10_surely 41 = .ok (.getfield 61, 3) := by decide +kernel
theorem dX10_surely_44 : decode cX10_surely 44 = .ok (.iload_n 3, 1) := by decide +kernel
theorem dX10_surely_45 : decode cX10_surely 45 = .ok (.invokevirtual 308, 3) := by decide +kernel
theorem dX10_surely_48 : decode cX10_surely 48 = .ok (.aload_n 0, 1) := by decide +kernel
theorem dX10_surely_49 : decode cX10_surely 49 = .ok (.getfield 68, 3) := by decide +kernel
theorem dX10_surely_52 : decode cX10_surely 52 = .ok (.aload_n 0, 1) := by decide +kernel
theorem dX10_surely_53 : decode cX10_surely 53 = .ok (.getfield 84, 3) := by decide +kernel
theorem dX10_surely_56 : decode cX10_surely 56 = .ok (.aload_n 0, 1) := by decide +kernel
theorem dX10_surely_57 : decode cX10_surely 57 = .ok (.getfield 84, 3) := by decide +kernel
theorem dX10_surely_60 : decode cX10_surely 60 = .ok (.iload_n 1, 1) := by decide +kernel
theorem dX10_surely_61 : decode cX10_surely 61 = .ok (.iload_n 2, 1) := by decide +kernel
theorem dX10_surely_62 : decode cX10_surely 62 = .ok (.invokevirtual 173, 3) := by decide +kernel
theorem dX10_surely_65 : decode cX10_surely 65 = .ok (.invokevirtual 315, 3) := by decide +kernel
theorem dX10_surely_68 : decode cX10_surely 68 = .ok (.ireturn, 1) := by decide +kernel
set_option maxRecDepth 20000 in
theorem ggX10_ask_X10_isStep : GoodIn wsX10_ask wsX10_isStep := goodIn_r _ [7] (by decide +kernel) (by decide +kernel)
set_option maxRecDepth 20000 in
theorem gX10_ask_X10_isStep : GoodIn wsX10_ask (va_wsS RX10 305 yX10_isStep wsX10_isStep) := goodIn_app (goodIn_of _ (by decide +kernel)) ggX10_ask_X10_isStep
set_option maxRecDepth 20000 in
theorem ggX10_ask_X3_gather : GoodIn wsX10_ask wsX3_gather := goodIn_r _ [12, 13, 14, 15, 16, 17, 18, 19, 20, 21, 22, 23, 24, 25, 26, 27, 28, 29, 30, 31, 32, 33, 34, 35, 36, 37, 38, 39, 40, 41, 42, 43, 44, 45, 46, 47, 48, 49, 50, 51, 52, 53, 54, 55, 56, 57, 58, 59, 60, 61, 62, 63, 64, 65, 66, 67, 68, 69, 70, 71, 72, 73, 74, 75, 76, 77, 78, 79, 80, 128, 129, 130, 131, 132, 133, 134, 135, 136, 137, 138, 139, 140, 141, 142, 143, 144, 145, 146, 147, 148, 149, 150, 151] (by decide +kernel) (by decide +kernel)
set_option maxRecDepth 20000 in
theorem gX10_ask_X3_gather : GoodIn wsX10_ask (wsV RX10 308 RX3 yX3_gather wsX3_gather) := goodIn_app (goodIn_of _ (by decide +kernel)) ggX10_ask_X3_gather
set_option maxRecDepth 20000 in
theorem ggX10_ask_X3_bestQuestion : GoodIn wsX10_ask wsX3_bestQuestion := goodIn_r _ [84, 13, 85, 86, 87, 35, 88, 89, 90, 91, 92, 93, 94, 95, 96, 97, 98, 99, 100, 101, 102, 103, 104, 105, 106, 11, 107, 108, 14, 109, 62, 59, 63, 38, 39, 40, 41, 42, 43, 44, 45, 46, 37, 110, 54, 55, 56, 57, 58, 60, 61, 64, 65, 66, 67, 68, 69, 70, 71, 72, 73, 74, 75, 76, 77, 78, 79, 80, 111, 112, 113, 114, 128, 129, 130, 143, 144, 145, 146, 147, 148, 149, 150, 151] (by decide +kernel) (by decide +kernel)
set_option maxRecDepth 20000 in
theorem gX10_ask_X3_bestQuestion : GoodIn wsX10_ask (wsV RX10 318 RX3 yX3_bestQuestion wsX3_bestQuestion) := goodIn_app (goodIn_of _ (by decide +kernel)) ggX10_ask_X3_bestQuestion
theorem dX10_ask_0 : decode cX10_ask 0 = .ok (.iload_n 1, 1) := by decide +kernel
theorem dX10_ask_1 : decode cX10_ask 1 = .ok (.invokestatic 305, 3) := by decide +kernel
theorem dX10_ask_4 : decode cX10_ask 4 = .ok (.ifCond .ne 6, 3) := by decide +kernel
theorem dX10_ask_7 : decode cX10_ask 7 = .ok (.bipush (-2), 2) := by decide +kernel
theorem dX10_ask_9 : decode cX10_ask 9 = .ok (.ireturn, 1) := by decide +kernel
theorem dX10_ask_10 : decode cX10_ask 10 = .ok (.aload_n 0, 1) := by decide +kernel
theorem dX10_ask_11 : decode cX10_ask 11 = .ok (.getfield 68, 3) := by decide +kernel
theorem dX10_ask_14 : decode cX10_ask 14 = .ok (.aload_n 0, 1) := by decide +kernel
theorem dX10_ask_15 : decode cX10_ask 15 = .ok (.getfield 84, 3) := by decide +kernel
theorem dX10_ask_18 : decode cX10_ask 18 = .ok (.aload_n 0, 1) := by decide +kernel
theorem dX10_ask_19 : decode cX10_ask 19 = .ok (.getfield 61, 3) := by decide +kernel
theorem dX10_ask_22 : decode cX10_ask 22 = .ok (.iload_n 1, 1) := by decide +kernel
theorem dX10_ask_23 : decode cX10_ask 23 = .ok (.invokevirtual 308, 3) := by decide +kernel
theorem dX10_ask_26 : decode cX10_ask 26 = .ok (.aload_n 0, 1) := by decide +kernel
theorem dX10_ask_27 : decode cX10_ask 27 = .ok (.getfield 68, 3) := by decide +kernel
theorem dX10_ask_30 : decode cX10_ask 30 = .ok (.aload_n 0, 1) := by decide +kernel
theorem dX10_ask_31 : decode cX10_ask 31 = .ok (.getfield 84, 3) := by decide +kernel
theorem dX10_ask_34 : decode cX10_ask 34 = .ok (.invokevirtual 318, 3) := by decide +kernel
theorem dX10_ask_37 : decode cX10_ask 37 = .ok (.ireturn, 1) := by decide +kernel
set_option maxRecDepth 20000 in
theorem ggX10_count_X7_size : GoodIn wsX10_count wsX7_size := goodIn_r _ [7, 8, 33, 34, 35, 36, 37, 38, 39, 40, 41, 42, 43, 44] (by decide +kernel) (by decide +kernel)
set_option maxRecDepth 20000 in
theorem gX10_count_X7_size : GoodIn wsX10_count (wsV RX10 321 RX7 yX7_size wsX7_size) := goodIn_app (goodIn_of _ (by decide +kernel)) ggX10_count_X7_size
set_option maxRecDepth 20000 in
theorem ggX10_count_X7_rights : GoodIn wsX10_count wsX7_rights := goodIn_r _ [12, 13, 33, 34, 35, 36, 37, 38, 39, 40, 41, 42, 43, 44] (by decide +kernel) (by decide +kernel)
set_option maxRecDepth 20000 in
theorem gX10_count_X7_rights : GoodIn wsX10_count (wsV RX10 322 RX7 yX7_rights wsX7_rights) := goodIn_app (goodIn_of _ (by decide +kernel)) ggX10_count_X7_rights
set_option maxRecDepth 20000 in
theorem ggX10_count_X8_size : GoodIn wsX10_count wsX8_size := goodIn_r _ [18, 19, 45, 46, 47, 48, 49, 50] (by decide +kernel) (by decide +kernel)
set_option maxRecDepth 20000 in
theorem gX10_count_X8_size : GoodIn wsX10_count (wsV RX10 105 RX8 yX8_size wsX8_size) := goodIn_app (goodIn_of _ (by decide +kernel)) ggX10_count_X8_size
theorem dX10_count_0 : decode cX10_count 0 = .ok (.iload_n 1, 1) := by decide +kernel
theorem dX10_count_1 : decode cX10_count 1 = .ok (.tableswitch 51 0 2 #[27, 35, 43], 27) := by decide +kernel
theorem dX10_count_28 : decode cX10_count 28 = .ok (.aload_n 0, 1) := by decide +kernel
theorem dX10_count_29 : decode cX10_count 29 = .ok (.getfield 61, 3) := by decide +kernel
theorem dX10_count_32 : decode cX10_count 32 = .ok (.invokevirtual 321, 3) := by decide +kernel
theorem dX10_count_35 : decode cX10_count 35 = .ok (.ireturn, 1) := by decide +kernel
theorem dX10_count_36 : decode cX10_count 36 = .ok (.aload_n 0, 1) := by decide +kernel
theorem dX10_count_37 : decode cX10_count 37 = .ok (.getfield 61, 3) := by decide +kernel
theorem dX10_count_40 : decode cX10_count 40 = .ok (.invokevirtual 322, 3) := by decide +kernel
theorem dX10_count_43 : decode cX10_count 43 = .ok (.ireturn, 1) := by decide +kernel
theorem dX10_count_44 : decode cX10_count 44 = .ok (.aload_n 0, 1) := by decide +kernel
theorem dX10_count_45 : decode cX10_count 45 = .ok (.getfield 10, 3) := by decide +kernel
theorem dX10_count_48 : decode cX10_count 48 = .ok (.invokevirtual 105, 3) := by decide +kernel
theorem dX10_count_51 : decode cX10_count 51 = .ok (.ireturn, 1) := by decide +kernel
theorem dX10_count_52 : decode cX10_count 52 = .ok (.iconst (-1), 1) := by decide +kernel
theorem dX10_count_53 : decode cX10_count 53 = .ok (.ireturn, 1) := by decide +kernel
set_option maxRecDepth 20000 in
theorem ggX10_become_X5_corners : GoodIn wsX10_become wsX5_corners := goodIn_r _ [8, 9, 31, 32, 33, 34, 35, 36, 37, 38, 39] (by decide +kernel) (by decide +kernel)
set_option maxRecDepth 20000 in
theorem gX10_become_X5_corners : GoodIn wsX10_become (wsV RX10 138 RX5 yX5_corners wsX5_corners) := goodIn_app (goodIn_of _ (by decide +kernel)) ggX10_become_X5_corners
set_option maxRecDepth 20000 in
theorem ggX10_become_X7_forget : GoodIn wsX10_become wsX7_forget := goodIn_r _ [14, 15, 16, 17, 40, 41, 42, 43, 44, 45, 46, 47, 48, 49, 50, 51] (by decide +kernel) (by decide +kernel)
set_option maxRecDepth 20000 in
theorem gX10_become_X7_forget : GoodIn wsX10_become (wsV RX10 325 RX7 yX7_forget wsX7_forget) := goodIn_app (goodIn_of _ (by decide +kernel)) ggX10_become_X7_forget
theorem dX10_become_0 : decode cX10_become 0 = .ok (.aload_n 1, 1) := by decide +kernel
theorem dX10_become_1 : decode cX10_become 1 = .ok (.invokevirtual 138, 3) := by decide +kernel
theorem dX10_become_4 : decode cX10_become 4 = .ok (.aload_n 0, 1) := by decide +kernel
theorem dX10_become_5 : decode cX10_become 5 = .ok (.getfield 84, 3) := by decide +kernel
theorem dX10_become_8 : decode cX10_become 8 = .ok (.invokevirtual 138, 3) := by decide +kernel
theorem dX10_become_11 : decode cX10_become 11 = .ok (.if_icmp .eq 10, 3) := by decide +kernel
theorem dX10_become_14 : decode cX10_become 14 = .ok (.aload_n 0, 1) := by decide +kernel
theorem dX10_become_15 : decode cX10_become 15 = .ok (.getfield 61, 3) := by decide +kernel
theorem dX10_become_18 : decode cX10_become 18 = .ok (.invokevirtual 325, 3) := by decide +kernel
theorem dX10_become_21 : decode cX10_become 21 = .ok (.aload_n 0, 1) := by decide +kernel
theorem dX10_become_22 : decode cX10_become 22 = .ok (.aload_n 1, 1) := by decide +kernel
theorem dX10_become_23 : decode cX10_become 23 = .ok (.putfield 84, 3) := by decide +kernel
theorem dX10_become_26 : decode cX10_become 26 = .ok (.aload_n 0, 1) := by decide +kernel
theorem dX10_become_27 : decode cX10_become 27 = .ok (.iload_n 2, 1) := by decide +kernel
theorem dX10_become_28 : decode cX10_become 28 = .ok (.putfield 94, 3) := by decide +kernel
theorem dX10_become_31 : decode cX10_become 31 = .ok (.return_, 1) := by decide +kernel
set_option maxRecDepth 20000 in
theorem ggX10_areCorners_X5_hasCorner : GoodIn wsX10_areCorners wsX5_hasCorner := goodIn_r _ [6, 7, 21, 22, 23, 24, 25, 26, 27, 28, 29] (by decide +kernel) (by decide +kernel)
set_option maxRecDepth 20000 in
theorem gX10_areCorners_X5_hasCorner : GoodIn wsX10_areCorners (wsV RX10 160 RX5 yX5_hasCorner wsX5_hasCorner) := goodIn_app (goodIn_of _ (by decide +kernel)) ggX10_areCorners_X5_hasCorner
theorem dX10_areCorners_0 : decode cX10_areCorners 0 = .ok (.aload_n 0, 1) := by decide +kernel
theorem dX10_areCorners_1 : decode cX10_areCorners 1 = .ok (.getfield 84, 3) := by decide +kernel
theorem dX10_areCorners_4 : decode cX10_areCorners 4 = .ok (.iload_n 1, 1) := by decide +kernel
theorem dX10_areCorners_5 : decode cX10_areCorners 5 = .ok (.invokevirtual 160, 3) := by decide +kernel
theorem dX10_areCorners_8 : decode cX10_areCorners 8 = .ok (.ifCond .eq 18, 3) := by decide +kernel
theorem dX10_areCorners_11 : decode cX10_areCorners 11 = .ok (.aload_n 0, 1) := by decide +kernel
theorem dX10_areCorners_12 : decode cX10_areCorners 12 = .ok (.getfield 84, 3) := by decide +kernel
theorem dX10_areCorners_15 : decode cX10_areCorners 15 = .ok (.iload_n 2, 1) := by decide +kernel
theorem dX10_areCorners_16 : decode cX10_areCorners 16 = .ok (.invokevirtual 160, 3) := by decide +kernel
theorem dX10_areCorners_19 : decode cX10_areCorners 19 = .ok (.ifCond .eq 7, 3) := by decide +kernel
theorem dX10_areCorners_22 : decode cX10_areCorners 22 = .ok (.iconst 1, 1) := by decide +kernel
theorem dX10_areCorners_23 : decode cX10_areCorners 23 = .ok (.goto 4, 3) := by decide +kernel
theorem dX10_areCorners_26 : decode cX10_areCorners 26 = .ok (.iconst 0, 1) := by decide +kernel
theorem dX10_areCorners_27 : decode cX10_areCorners 27 = .ok (.ireturn, 1) := by decide +kernel
set_option maxRecDepth 20000 in
theorem ggX10_takeRow_X8_readNumbers : GoodIn wsX10_takeRow wsX8_readNumbers := goodIn_r _ [8, 9, 10, 11, 12, 13, 7, 14, 15, 16, 17, 18, 19, 20, 21, 22, 23, 24, 25, 26, 27, 28, 29, 30, 31, 32, 33, 34, 35, 36, 37, 38, 39, 63, 64, 65, 66, 67, 68] (by decide +kernel) (by decide +kernel)
set_option maxRecDepth 20000 in
theorem gX10_takeRow_X8_readNumbers : GoodIn wsX10_takeRow (wsV RX10 240 RX8 yX8_readNumbers wsX8_readNumbers) := goodIn_app (goodIn_of _ (by decide +kernel)) ggX10_takeRow_X8_readNumbers
set_option maxRecDepth 20000 in
theorem ggX10_takeRow_X8_shorten : GoodIn wsX10_takeRow wsX8_shorten := goodIn_r _ [43, 20, 63, 64, 65, 66, 67, 68] (by decide +kernel) (by decide +kernel)
set_option maxRecDepth 20000 in
theorem gX10_takeRow_X8_shorten : GoodIn wsX10_takeRow (wsV RX10 109 RX8 yX8_shorten wsX8_shorten) := goodIn_app (goodIn_of _ (by decide +kernel)) ggX10_takeRow_X8_shorten
set_option maxRecDepth 20000 in
theorem ggX10_takeRow_X5_corners : GoodIn wsX10_takeRow wsX5_corners := goodIn_r _ [48, 49, 69, 70, 71, 72, 73, 74, 75, 76, 77] (by decide +kernel) (by decide +kernel)
set_option maxRecDepth 20000 in
theorem gX10_takeRow_X5_corners : GoodIn wsX10_takeRow (wsV RX10 138 RX5 yX5_corners wsX5_corners) := goodIn_app (goodIn_of _ (by decide +kernel)) ggX10_takeRow_X5_corners
theorem dX10_takeRow_0 : decode cX10_takeRow 0 = .ok (.aload_n 0, 1) := by decide +kernel
theorem dX10_takeRow_1 : decode cX10_takeRow 1 = .ok (.getfield 10, 3) := by decide +kernel
theorem dX10_takeRow_4 : decode cX10_takeRow 4 = .ok (.aload_n 0, 1) := by decide +kernel
theorem dX10_takeRow_5 : decode cX10_takeRow 5 = .ok (.getfield 72, 3) := by decide +kernel
theorem dX10_takeRow_8 : decode cX10_takeRow 8 = .ok (.invokevirtual 240, 3) := by decide +kernel
theorem dX10_takeRow_11 : decode cX10_takeRow 11 = .ok (.istore_n 1, 1) := by decide +kernel
theorem dX10_takeRow_12 : decode cX10_takeRow 12 = .ok (.aload_n 0, 1) := by decide +kernel
theorem dX10_takeRow_13 : decode cX10_takeRow 13 = .ok (.getfield 10, 3) := by decide +kernel
theorem dX10_takeRow_16 : decode cX10_takeRow 16 = .ok (.iconst 0, 1) := by decide +kernel
theorem dX10_takeRow_17 : decode cX10_takeRow 17 = .ok (.invokevirtual 109, 3) := by decide +kernel
theorem dX10_takeRow_20 : decode cX10_takeRow 20 = .ok (.iload_n 1, 1) := by decide +kernel
theorem dX10_takeRow_21 : decode cX10_takeRow 21 = .ok (.aload_n 0, 1) := by decide +kernel
theorem dX10_takeRow_22 : decode cX10_takeRow 22 = .ok (.getfield 84, 3) := by decide +kernel
theorem dX10_takeRow_25 : decode cX10_takeRow 25 = .ok (.invokevirtual 138, 3) := by decide +kernel
theorem dX10_takeRow_28 : decode cX10_takeRow 28 = .ok (.if_icmp .ne 7, 3) := by decide +kernel
theorem dX10_takeRow_31 : decode cX10_takeRow 31 = .ok (.iconst 1, 1) := by decide +kernel
theorem dX10_takeRow_32 : decode cX10_takeRow 32 = .ok (.goto 4, 3) := by decide +kernel
theorem dX10_takeRow_35 : decode cX10_takeRow 35 = .ok (.iconst 0, 1) := by decide +kernel
theorem dX10_takeRow_36 : decode cX10_takeRow 36 = .ok (.ireturn, 1) := by decide +kernel
theorem dX10_isStep_0 : decode cX10_isStep 0 = .ok (.iload_n 0, 1) := by decide +kernel
theorem dX10_isStep_1 : decode cX10_isStep 1 = .ok (.ifCond .lt 14, 3) := by decide +kernel
theorem dX10_isStep_4 : decode cX10_isStep 4 = .ok (.iload_n 0, 1) := by decide +kernel
theorem dX10_isStep_5 : decode cX10_isStep 5 = .ok (.sipush 999, 3) := by decide +kernel
theorem dX10_isStep_8 : decode cX10_isStep 8 = .ok (.if_icmp .gt 7, 3) := by decide +kernel
theorem dX10_isStep_11 : decode cX10_isStep 11 = .ok (.iconst 1, 1) := by decide +kernel
theorem dX10_isStep_12 : decode cX10_isStep 12 = .ok (.goto 4, 3) := by decide +kernel
theorem dX10_isStep_15 : decode cX10_isStep 15 = .ok (.iconst 0, 1) := by decide +kernel
theorem dX10_isStep_16 : decode cX10_isStep 16 = .ok (.ireturn, 1) := by decide +kernel
theorem dX10_isValue_0 : decode cX10_isValue 0 = .ok (.iload_n 0, 1) := by decide +kernel
theorem dX10_isValue_1 : decode cX10_isValue 1 = .ok (.ifCond .lt 14, 3) := by decide +kernel
theorem dX10_isValue_4 : decode cX10_isValue 4 = .ok (.iload_n 0, 1) := by decide +kernel
theorem dX10_isValue_5 : decode cX10_isValue 5 = .ok (.sipush 9999, 3) := by decide +kernel
theorem dX10_isValue_8 : decode cX10_isValue 8 = .ok (.if_icmp .gt 7, 3) := by decide +kernel
theorem dX10_isValue_11 : decode cX10_isValue 11 = .ok (.iconst 1, 1) := by decide +kernel
theorem dX10_isValue_12 : decode cX10_isValue 12 = .ok (.goto 4, 3) := by decide +kernel
theorem dX10_isValue_15 : decode cX10_isValue 15 = .ok (.iconst 0, 1) := by decide +kernel
theorem dX10_isValue_16 : decode cX10_isValue 16 = .ok (.ireturn, 1) := by decide +kernel
