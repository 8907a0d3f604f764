theorem dX5_nearestTo_2 : decode cX5_nearestTo 2 = .ok (.aload_n 0, 1) := by decide +kernel
theorem dX5_nearestTo_3 : decode cX5_nearestTo 3 = .ok (.aload_n 1, 1) := by decide +kernel
theorem dX5_nearestTo_4 : decode cX5_nearestTo 4 = .ok (.aload_n 0, 1) := by decide +kernel
theorem dX5_nearestTo_5 : decode cX5_nearestTo 5 = .ok (.iconst 0, 1) := by decide +kernel
theorem dX5_nearestTo_6 : decode cX5_nearestTo 6 = .ok (.invokevirtual 122, 3) := by decide +kernel
theorem dX5_nearestTo_9 : decode cX5_nearestTo 9 = .ok (.invokevirtual 125, 3) := by decide +kernel
theorem dX5_nearestTo_12 : decode cX5_nearestTo 12 = .ok (.istore_n 3, 1) := by decide +kernel
theorem dX5_nearestTo_13 : decode cX5_nearestTo 13 = .ok (.iconst 1, 1) := by decide +kernel
theorem dX5_nearestTo_14 : decode cX5_nearestTo 14 = .ok (.istore 4, 2) := by decide +kernel
theorem dX5_nearestTo_16 : decode cX5_nearestTo 16 = .ok (.iload 4, 2) := by decide +kernel
theorem dX5_nearestTo_18 : decode cX5_nearestTo 18 = .ok (.aload_n 0, 1) := by decide +kernel
theorem dX5_nearestTo_19 : decode cX5_nearestTo 19 = .ok (.getfield 65, 3) := by decide +kernel
theorem dX5_nearestTo_22 : decode cX5_nearestTo 22 = .ok (.if_icmp .ge 39, 3) := by decide +kernel
theorem dX5_nearestTo_25 : decode cX5_nearestTo 25 = .ok (.iload_n 3, 1) := by decide +kernel
theorem dX5_nearestTo_26 : decode cX5_nearestTo 26 = .ok (.ifCond .le 35, 3) := by decide +kernel
theorem dX5_nearestTo_29 : decode cX5_nearestTo 29 = .ok (.aload_n 0, 1) := by decide +kernel
theorem dX5_nearestTo_30 : decode cX5_nearestTo 30 = .ok (.aload_n 1, 1) := by decide +kernel
theorem dX5_nearestTo_31 : decode cX5_nearestTo 31 = .ok (.aload_n 0, 1) := by decide +kernel
theorem dX5_nearestTo_32 : decode cX5_nearestTo 32 = .ok (.getfield 27, 3) := by decide +kernel
theorem dX5_nearestTo_35 : decode cX5_nearestTo 35 = .ok (.iload 4, 2) := by decide +kernel
theorem dX5_nearestTo_37 : decode cX5_nearestTo 37 = .ok (.iaload, 1) := by decide +kernel
theorem dX5_nearestTo_38 : decode cX5_nearestTo 38 = .ok (.invokevirtual 125, 3) := by decide +kernel
theorem dX5_nearestTo_41 : decode cX5_nearestTo 41 = .ok (.istore 5, 2) := by decide +kernel
theorem dX5_nearestTo_43 : decode cX5_nearestTo 43 = .ok (.iload 5, 2) := by decide +kernel
theorem dX5_nearestTo_45 : decode cX5_nearestTo 45 = .ok (.iload_n 3, 1) := by decide +kernel
theorem dX5_nearestTo_46 : decode cX5_nearestTo 46 = .ok (.if_icmp .ge 9, 3) := by decide +kernel
theorem dX5_nearestTo_49 : decode cX5_nearestTo 49 = .ok (.iload 5, 2) := by decide +kernel
theorem dX5_nearestTo_51 : decode cX5_nearestTo 51 = .ok (.istore_n 3, 1) := by decide +kernel
theorem dX5_nearestTo_52 : decode cX5_nearestTo 52 = .ok (.iload 4, 2) := by decide +kernel
theorem dX5_nearestTo_54 : decode cX5_nearestTo 54 = .ok (.istore_n 2, 1) := by decide +kernel
theorem dX5_nearestTo_55 : decode cX5_nearestTo 55 = .ok (.iinc 4 1, 3) := by decide +kernel
theorem dX5_nearestTo_58 : decode cX5_nearestTo 58 = .ok (.goto (-42), 3) := by decide +kernel
theorem dX5_nearestTo_61 : decode cX5_nearestTo 61 = .ok (.iload_n 2, 1) := by decide +kernel
theorem dX5_nearestTo_62 : decode cX5_nearestTo 62 = .ok (.ireturn, 1) := by decide +kernel
set_option maxRecDepth 20000 in
theorem ggX5_greatestIn_X5_greatestFrom : GoodIn wsX5_greatestIn wsX5_greatestFrom := goodIn_r _ [10, 1, 2, 3, 4, 5, 11, 12, 13, 9, 14, 15, 16, 17, 18, 19, 20, 21, 22, 23, 24, 25, 26, 27, 28, 29, 30, 31, 32, 33, 34, 35] (by decide +kernel) (by decide +kernel)
set_option maxRecDepth 20000 in
theorem gX5_greatestIn_X5_greatestFrom : GoodIn wsX5_greatestIn (wsV RX5 129 RX5 yX5_greatestFrom wsX5_greatestFrom) := goodIn_app (goodIn_of _ (by decide +kernel)) ggX5_greatestIn_X5_greatestFrom
theorem dX5_greatestIn_0 : decode cX5_greatestIn 0 = .ok (.iconst 0, 1) := by decide +kernel
theorem dX5_greatestIn_1 : decode cX5_greatestIn 1 = .ok (.istore_n 2, 1) := by decide +kernel
theorem dX5_greatestIn_2 : decode cX5_greatestIn 2 = .ok (.iconst 0, 1) := by decide +kernel
theorem dX5_greatestIn_3 : decode cX5_greatestIn 3 = .ok (.istore_n 3, 1) := by decide +kernel
theorem dX5_greatestIn_4 : decode cX5_greatestIn 4 = .ok (.iload_n 3, 1) := by decide +kernel
theorem dX5_greatestIn_5 : decode cX5_greatestIn 5 = .ok (.aload_n 0, 1) := by decide +kernel
theorem dX5_greatestIn_6 : decode cX5_greatestIn 6 = .ok (.getfield 30, 3) := by decide +kernel
theorem dX5_greatestIn_9 : decode cX5_greatestIn 9 = .ok (.if_icmp .ge 20, 3) := by decide +kernel
theorem dX5_greatestIn_12 : decode cX5_greatestIn 12 = .ok (.iload_n 2, 1) := by decide +kernel
theorem dX5_greatestIn_13 : decode cX5_greatestIn 13 = .ok (.aload_n 0, 1) := by decide +kernel
theorem dX5_greatestIn_14 : decode cX5_greatestIn 14 = .ok (.iload_n 1, 1) := by decide +kernel
theorem dX5_greatestIn_15 : decode cX5_greatestIn 15 = .ok (.iload_n 3, 1) := by decide +kernel
theorem dX5_greatestIn_16 : decode cX5_greatestIn 16 = .ok (.invokevirtual 129, 3) := by decide +kernel
theorem dX5_greatestIn_19 : decode cX5_greatestIn 19 = .ok (.invokestatic 97, 3) := by decide +kernel
theorem dX5_greatestIn_22 : decode cX5_greatestIn 22 = .ok (.istore_n 2, 1) := by decide +kernel
theorem dX5_greatestIn_23 : decode cX5_greatestIn 23 = .ok (.iinc 3 1, 3) := by decide +kernel
theorem dX5_greatestIn_26 : decode cX5_greatestIn 26 = .ok (.goto (-22), 3) := by decide +kernel
theorem dX5_greatestIn_29 : decode cX5_greatestIn 29 = .ok (.iload_n 2, 1) := by decide +kernel
theorem dX5_greatestIn_30 : decode cX5_greatestIn 30 = .ok (.ireturn, 1) := by decide +kernel
set_option maxRecDepth 20000 in
theorem ggX5_greatestFrom_X5_trianglesAt : GoodIn wsX5_greatestFrom wsX5_trianglesAt := goodIn_r _ [10, 11, 12, 13, 14, 9, 15, 1, 16, 17, 18, 19, 20, 21, 22, 23, 24, 25, 26, 27, 28, 29, 30, 31] (by decide +kernel) (by decide +kernel)
set_option maxRecDepth 20000 in
theorem gX5_greatestFrom_X5_trianglesAt : GoodIn wsX5_greatestFrom (wsV RX5 100 RX5 yX5_trianglesAt wsX5_trianglesAt) := goodIn_app (goodIn_of _ (by decide +kernel)) ggX5_greatestFrom_X5_trianglesAt
theorem dX5_greatestFrom_0 : decode cX5_greatestFrom 0 = .ok (.iconst 0, 1) := by decide +kernel
theorem dX5_greatestFrom_1 : decode cX5_greatestFrom 1 = .ok (.istore_n 3, 1) := by decide +kernel
theorem dX5_greatestFrom_2 : decode cX5_greatestFrom 2 = .ok (.iconst 0, 1) := by decide +kernel
theorem dX5_greatestFrom_3 : decode cX5_greatestFrom 3 = .ok (.istore 4, 2) := by decide +kernel
theorem dX5_greatestFrom_5 : decode cX5_greatestFrom 5 = .ok (.iconst 1, 1) := by decide +kernel
theorem dX5_greatestFrom_6 : decode cX5_greatestFrom 6 = .ok (.istore 5, 2) := by decide +kernel
theorem dX5_greatestFrom_8 : decode cX5_greatestFrom 8 = .ok (.iload_n 2, 1) := by decide +kernel
theorem dX5_greatestFrom_9 : decode cX5_greatestFrom 9 = .ok (.iconst 1, 1) := by decide +kernel
theorem dX5_greatestFrom_10 : decode cX5_greatestFrom 10 = .ok (.iadd, 1) := by decide +kernel
theorem dX5_greatestFrom_11 : decode cX5_greatestFrom 11 = .ok (.istore 6, 2) := by decide +kernel
theorem dX5_greatestFrom_13 : decode cX5_greatestFrom 13 = .ok (.iload 6, 2) := by decide +kernel
theorem dX5_greatestFrom_15 : decode cX5_greatestFrom 15 = .ok (.aload_n 0, 1) := by decide +kernel
theorem dX5_greatestFrom_16 : decode cX5_greatestFrom 16 = .ok (.getfield 30, 3) := by decide +kernel
theorem dX5_greatestFrom_19 : decode cX5_greatestFrom 19 = .ok (.if_icmp .ge 39, 3) := by decide +kernel
theorem dX5_greatestFrom_22 : decode cX5_greatestFrom 22 = .ok (.iload_n 3, 1) := by decide +kernel
theorem dX5_greatestFrom_23 : decode cX5_greatestFrom 23 = .ok (.iload 5, 2) := by decide +kernel
theorem dX5_greatestFrom_25 : decode cX5_greatestFrom 25 = .ok (.invokestatic 97, 3) := by decide +kernel
theorem dX5_greatestFrom_28 : decode cX5_greatestFrom 28 = .ok (.istore_n 3, 1) := by decide +kernel
theorem dX5_greatestFrom_29 : decode cX5_greatestFrom 29 = .ok (.aload_n 0, 1) := by decide +kernel
theorem dX5_greatestFrom_30 : decode cX5_greatestFrom 30 = .ok (.iload_n 1, 1) := by decide +kernel
theorem dX5_greatestFrom_31 : decode cX5_greatestFrom 31 = .ok (.iload 6, 2) := by decide +kernel
theorem dX5_greatestFrom_33 : decode cX5_greatestFrom 33 = .ok (.invokevirtual 100, 3) := by decide +kernel
theorem dX5_greatestFrom_36 : decode cX5_greatestFrom 36 = .ok (.iload 5, 2) := by decide +kernel
theorem dX5_greatestFrom_38 : decode cX5_greatestFrom 38 = .ok (.imul, 1) := by decide +kernel
theorem dX5_greatestFrom_39 : decode cX5_greatestFrom 39 = .ok (.iload 4, 2) := by decide +kernel
theorem dX5_greatestFrom_41 : decode cX5_greatestFrom 41 = .ok (.isub, 1) := by decide +kernel
theorem dX5_greatestFrom_42 : decode cX5_greatestFrom 42 = .ok (.istore 7, 2) := by decide +kernel
theorem dX5_greatestFrom_44 : decode cX5_greatestFrom 44 = .ok (.iload 5, 2) := by decide +kernel
theorem dX5_greatestFrom_46 : decode cX5_greatestFrom 46 = .ok (.istore 4, 2) := by decide +kernel
theorem dX5_greatestFrom_48 : decode cX5_greatestFrom 48 = .ok (.iload 7, 2) := by decide +kernel
theorem dX5_greatestFrom_50 : decode cX5_greatestFrom 50 = .ok (.istore 5, 2) := by decide +kernel
theorem dX5_greatestFrom_52 : decode cX5_greatestFrom 52 = .ok (.iinc 6 1, 3) := by decide +kernel
theorem dX5_greatestFrom_55 : decode cX5_greatestFrom 55 = .ok (.goto (-42), 3) := by decide +kernel
theorem dX5_greatestFrom_58 : decode cX5_greatestFrom 58 = .ok (.iload_n 3, 1) := by decide +kernel
theorem dX5_greatestFrom_59 : decode cX5_greatestFrom 59 = .ok (.ireturn, 1) := by decide +kernel
set_option maxRecDepth 20000 in
theorem ggX5_numberOfGreatest_X5_greatestIn : GoodIn wsX5_numberOfGreatest wsX5_greatestIn := goodIn_r _ [7, 8, 9, 10, 11, 12, 13, 14, 15, 6, 16, 17, 18, 19, 20, 21, 22, 23, 24, 25, 26, 27, 28, 29, 30, 31, 32, 33, 34, 35, 36, 37, 38, 39, 40, 41] (by decide +kernel) (by decide +kernel)
set_option maxRecDepth 20000 in
theorem gX5_numberOfGreatest_X5_greatestIn : GoodIn wsX5_numberOfGreatest (wsV RX5 132 RX5 yX5_greatestIn wsX5_greatestIn) := goodIn_app (goodIn_of _ (by decide +kernel)) ggX5_numberOfGreatest_X5_greatestIn
theorem dX5_numberOfGreatest_0 : decode cX5_numberOfGreatest 0 = .ok (.iconst 0, 1) := by decide +kernel
theorem dX5_numberOfGreatest_1 : decode cX5_numberOfGreatest 1 = .ok (.istore_n 1, 1) := by decide +kernel
theorem dX5_numberOfGreatest_2 : decode cX5_numberOfGreatest 2 = .ok (.iconst 0, 1) := by decide +kernel
theorem dX5_numberOfGreatest_3 : decode cX5_numberOfGreatest 3 = .ok (.istore_n 2, 1) := by decide +kernel
theorem dX5_numberOfGreatest_4 : decode cX5_numberOfGreatest 4 = .ok (.iconst 0, 1) := by decide +kernel
theorem dX5_numberOfGreatest_5 : decode cX5_numberOfGreatest 5 = .ok (.istore_n 3, 1) := by decide +kernel
theorem dX5_numberOfGreatest_6 : decode cX5_numberOfGreatest 6 = .ok (.iload_n 3, 1) := by decide +kernel
theorem dX5_numberOfGreatest_7 : decode cX5_numberOfGreatest 7 = .ok (.aload_n 0, 1) := by decide +kernel
theorem dX5_numberOfGreatest_8 : decode cX5_numberOfGreatest 8 = .ok (.getfield 65, 3) := by decide +kernel
theorem dX5_numberOfGreatest_11 : decode cX5_numberOfGreatest 11 = .ok (.if_icmp .ge 32, 3) := by decide +kernel
theorem dX5_numberOfGreatest_14 : decode cX5_numberOfGreatest 14 = .ok (.aload_n 0, 1) := by decide +kernel
theorem dX5_numberOfGreatest_15 : decode cX5_numberOfGreatest 15 = .ok (.aload_n 0, 1) := by decide +kernel
theorem dX5_numberOfGreatest_16 : decode cX5_numberOfGreatest 16 = .ok (.getfield 27, 3) := by decide +kernel
theorem dX5_numberOfGreatest_19 : decode cX5_numberOfGreatest 19 = .ok (.iload_n 3, 1) := by decide +kernel
theorem dX5_numberOfGreatest_20 : decode cX5_numberOfGreatest 20 = .ok (.iaload, 1) := by decide +kernel
theorem dX5_numberOfGreatest_21 : decode cX5_numberOfGreatest 21 = .ok (.invokevirtual 132, 3) := by decide +kernel
theorem dX5_numberOfGreatest_24 : decode cX5_numberOfGreatest 24 = .ok (.istore 4, 2) := by decide +kernel
theorem dX5_numberOfGreatest_26 : decode cX5_numberOfGreatest 26 = .ok (.iload 4, 2) := by decide +kernel
theorem dX5_numberOfGreatest_28 : decode cX5_numberOfGreatest 28 = .ok (.iload_n 2, 1) := by decide +kernel
theorem dX5_numberOfGreatest_29 : decode cX5_numberOfGreatest 29 = .ok (.if_icmp .le 8, 3) := by decide +kernel
theorem dX5_numberOfGreatest_32 : decode cX5_numberOfGreatest 32 = .ok (.iload 4, 2) := by decide +kernel
theorem dX5_numberOfGreatest_34 : decode cX5_numberOfGreatest 34 = .ok (.istore_n 2, 1) := by decide +kernel
theorem dX5_numberOfGreatest_35 : decode cX5_numberOfGreatest 35 = .ok (.iload_n 3, 1) := by decide +kernel
theorem dX5_numberOfGreatest_36 : decode cX5_numberOfGreatest 36 = .ok (.istore_n 1, 1) := by decide +kernel
theorem dX5_numberOfGreatest_37 : decode cX5_numberOfGreatest 37 = .ok (.iinc 3 1, 3) := by decide +kernel
theorem dX5_numberOfGreatest_40 : decode cX5_numberOfGreatest 40 = .ok (.goto (-34), 3) := by decide +kernel
theorem dX5_numberOfGreatest_43 : decode cX5_numberOfGreatest 43 = .ok (.iload_n 1, 1) := by decide +kernel
theorem dX5_numberOfGreatest_44 : decode cX5_numberOfGreatest 44 = .ok (.ireturn, 1) := by decide +kernel
set_option maxRecDepth 20000 in
theorem ggX5_countWith_X5_entryOf : GoodIn wsX5_countWith wsX5_entryOf := goodIn_r _ [7, 8, 9, 10, 11, 12, 13, 14, 15, 16, 17, 6, 18, 19, 20, 21, 22, 23, 24, 25, 26, 27, 28, 29, 30, 31, 32, 33, 34, 35, 36, 37, 38, 39, 40] (by decide +kernel) (by decide +kernel)
set_option maxRecDepth 20000 in
theorem gX5_countWith_X5_entryOf : GoodIn wsX5_countWith (wsV RX5 135 RX5 yX5_entryOf wsX5_entryOf) := goodIn_app (goodIn_of _ (by decide +kernel)) ggX5_countWith_X5_entryOf
theorem dX5_countWith_0 : decode cX5_countWith 0 = .ok (.iconst 0, 1) := by decide +kernel
theorem dX5_countWith_1 : decode cX5_countWith 1 = .ok (.istore 4, 2) := by decide +kernel
theorem dX5_countWith_3 : decode cX5_countWith 3 = .ok (.iconst 0, 1) := by decide +kernel
theorem dX5_countWith_4 : decode cX5_countWith 4 = .ok (.istore 5, 2) := by decide +kernel
theorem dX5_countWith_6 : decode cX5_countWith 6 = .ok (.iload 5, 2) := by decide +kernel
theorem dX5_countWith_8 : decode cX5_countWith 8 = .ok (.aload_n 0, 1) := by decide +kernel
theorem dX5_countWith_9 : decode cX5_countWith 9 = .ok (.getfield 65, 3) := by decide +kernel
theorem dX5_countWith_12 : decode cX5_countWith 12 = .ok (.if_icmp .ge 29, 3) := by decide +kernel
theorem dX5_countWith_15 : decode cX5_countWith 15 = .ok (.aload_n 0, 1) := by decide +kernel
theorem dX5_countWith_16 : decode cX5_countWith 16 = .ok (.aload_n 0, 1) := by decide +kernel
theorem dX5_countWith_17 : decode cX5_countWith 17 = .ok (.getfield 27, 3) := by decide +kernel
theorem dX5_countWith_20 : decode cX5_countWith 20 = .ok (.iload 5, 2) := by decide +kernel
theorem dX5_countWith_22 : decode cX5_countWith 22 = .ok (.iaload, 1) := by decide +kernel
theorem dX5_countWith_23 : decode cX5_countWith 23 = .ok (.iload_n 1, 1) := by decide +kernel
theorem dX5_countWith_24 : decode cX5_countWith 24 = .ok (.iload_n 2, 1) := by decide +kernel
theorem dX5_countWith_25 : decode cX5_countWith 25 = .ok (.invokevirtual 135, 3) := by decide +kernel
theorem dX5_countWith_28 : decode cX5_countWith 28 = .ok (.iload_n 3, 1) := by decide +kernel
theorem dX5_countWith_29 : decode cX5_countWith 29 = .ok (.if_icmp .ne 6, 3) := by decide +kernel
theorem dX5_countWith_32 : decode cX5_countWith 32 = .ok (.iinc 4 1, 3) := by decide +kernel
theorem dX5_countWith_35 : decode cX5_countWith 35 = .ok (.iinc 5 1, 3) := by decide +kernel
theorem dX5_countWith_38 : decode cX5_countWith 38 = .ok (.goto (-32), 3) := by decide +kernel
theorem dX5_countWith_41 : decode cX5_countWith 41 = .ok (.iload 4, 2) := by decide +kernel
theorem dX5_countWith_43 : decode cX5_countWith 43 = .ok (.ireturn, 1) := by decide +kernel
