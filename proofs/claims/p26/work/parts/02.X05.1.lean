theorem dX5_greatestFrom_30 : decode cX5_greatestFrom 30 = .ok (.iload_n 1, 1) := by decide +kernel
theorem dX5_greatestFrom_31 : decode cX5_greatestFrom 31 = .ok (.iload 6, 2) := by decide +kernel
theorem dX5_greatestFrom_33 : decode cX5_greatestFrom 33 = .ok (.invokevirtual 100, 3) := by decide +kernel
theorem dX5_greatestFrom_36 : decode cX5_greatestFrom 36 = .ok (.iload 5, 2) := by decide +kernel
theorem dX5_greatestFrom_38 : decode cX5_greatestFrom 38 = .ok (.imul, 1) := by decide +kernel
theorem dX5_greatestFrom_39 : decode cX5_greatestFrom 39 = .ok (.iload 4, 2) := by decide +kernel
theorem dX5_greatestFrom_41 : decode cX5_greatestFrom 41 = .ok (.isub, 1) := by decide +kernel
theorem dX5_greatestFrom_42 : decode cX5_greatestFrom 42 = .ok (.istore 7, 2) := by decide +kernel
theorem dX5_greatestFrom_44 : decode cX5_greatestFrom 44 = .ok (.iload 5, 2) := by decide +kernel
theorem dX5_greatestFrom_46 : decode cX5_greatestFrom 46 = .ok (.istore 4, 2) := by decide +kernel
theorem dX5_greatestFrom_48 : decode cX5_greatestFrom 48 = .ok (.iload 7, 2) := by decide +kernel
theorem dX5_greatestFrom_50 : decode cX5_greatestFrom 50 = .ok (.istore 5, 2) := by decide +kernel
theorem dX5_greatestFrom_52 : decode cX5_greatestFrom 52 = .ok (.iinc 6 1, 3) := by decide +kernel
theorem dX5_greatestFrom_55 : decode cX5_greatestFrom 55 = .ok (.goto (-42), 3) := by decide +kernel
theorem dX5_greatestFrom_58 : decode cX5_greatestFrom 58 = .ok (.iload_n 3, 1) := by decide +kernel
theorem dX5_greatestFrom_59 : decode cX5_greatestFrom 59 = .ok (.ireturn, 1) := by decide +kernel
theorem dX5_numberOfGreatest_0 : decode cX5_numberOfGreatest 0 = .ok (.iconst 0, 1) := by decide +kernel
theorem dX5_numberOfGreatest_1 : decode cX5_numberOfGreatest 1 = .ok (.istore_n 1, 1) := by decide +kernel
theorem dX5_numberOfGreatest_2 : decode cX5_numberOfGreatest 2 = .ok (.iconst 0, 1) := by decide +kernel
theorem dX5_numberOfGreatest_3 : decode cX5_numberOfGreatest 3 = .ok (.istore_n 2, 1) := by decide +kernel
theorem dX5_numberOfGreatest_4 : decode cX5_numberOfGreatest 4 = .ok (.iconst 0, 1) := by decide +kernel
theorem dX5_numberOfGreatest_5 : decode cX5_numberOfGreatest 5 = .ok (.istore_n 3, 1) := by decide +kernel
theorem dX5_numberOfGreatest_6 : decode cX5_numberOfGreatest 6 = .ok (.iload_n 3, 1) := by decide +kernel
theorem dX5_numberOfGreatest_7 : decode cX5_numberOfGreatest 7 = .ok (.aload_n 0, 1) := by decide +kernel
theorem dX5_numberOfGreatest_8 : decode cX5_numberOfGreatest 8 = .ok (.getfield 65, 3) := by decide +kernel
theorem dX5_numberOfGreatest_11 : decode cX5_numberOfGreatest 11 = .ok (.if_icmp .ge 32, 3) := by decide +kernel
theorem dX5_numberOfGreatest_14 : decode cX5_numberOfGreatest 14 = .ok (.aload_n 0, 1) := by decide +kernel
theorem dX5_numberOfGreatest_15 : decode cX5_numberOfGreatest 15 = .ok (.aload_n 0, 1) := by decide +kernel
theorem dX5_numberOfGreatest_16 : decode cX5_numberOfGreatest 16 = .ok (.getfield 27, 3) := by decide +kernel
theorem dX5_numberOfGreatest_19 : decode cX5_numberOfGreatest 19 = .ok (.iload_n 3, 1) := by decide +kernel
theorem dX5_numberOfGreatest_20 : decode cX5_numberOfGreatest 20 = .ok (.iaload, 1) := by decide +kernel
theorem dX5_numberOfGreatest_21 : decode cX5_numberOfGreatest 21 = .ok (.invokevirtual 132, 3) := by decide +kernel
theorem dX5_numberOfGreatest_24 : decode cX5_numberOfGreatest 24 = .ok (.istore 4, 2) := by decide +kernel
theorem dX5_numberOfGreatest_26 : decode cX5_numberOfGreatest 26 = .ok (.iload 4, 2) := by decide +kernel
theorem dX5_numberOfGreatest_28 : decode cX5_numberOfGreatest 28 = .ok (.iload_n 2, 1) := by decide +kernel
theorem dX5_numberOfGreatest_29 : decode cX5_numberOfGreatest 29 = .ok (.if_icmp .le 8, 3) := by decide +kernel
theorem dX5_numberOfGreatest_32 : decode cX5_numberOfGreatest 32 = .ok (.iload 4, 2) := by decide +kernel
theorem dX5_numberOfGreatest_34 : decode cX5_numberOfGreatest 34 = .ok (.istore_n 2, 1) := by decide +kernel
theorem dX5_numberOfGreatest_35 : decode cX5_numberOfGreatest 35 = .ok (.iload_n 3, 1) := by decide +kernel
theorem dX5_numberOfGreatest_36 : decode cX5_numberOfGreatest 36 = .ok (.istore_n 1, 1) := by decide +kernel
theorem dX5_numberOfGreatest_37 : decode cX5_numberOfGreatest 37 = .ok (.iinc 3 1, 3) := by decide +kernel
theorem dX5_numberOfGreatest_40 : decode cX5_numberOfGreatest 40 = .ok (.goto (-34), 3) := by decide +kernel
theorem dX5_numberOfGreatest_43 : decode cX5_numberOfGreatest 43 = .ok (.iload_n 1, 1) := by decide +kernel
theorem dX5_numberOfGreatest_44 : decode cX5_numberOfGreatest 44 = .ok (.ireturn, 1) := by decide +kernel
theorem dX5_countWith_0 : decode cX5_countWith 0 = .ok (.iconst 0, 1) := by decide +kernel
theorem dX5_countWith_1 : decode cX5_countWith 1 = .ok (.istore 4, 2) := by decide +kernel
theorem dX5_countWith_3 : decode cX5_countWith 3 = .ok (.iconst 0, 1) := by decide +kernel
theorem dX5_countWith_4 : decode cX5_countWith 4 = .ok (.istore 5, 2) := by decide +kernel
theorem dX5_countWith_6 : decode cX5_countWith 6 = .ok (.iload 5, 2) := by decide +kernel
theorem dX5_countWith_8 : decode cX5_countWith 8 = .ok (.aload_n 0, 1) := by decide +kernel
theorem dX5_countWith_9 : decode cX5_countWith 9 = .ok (.getfield 65, 3) := by decide +kernel
theorem dX5_countWith_12 : decode cX5_countWith 12 = .ok (.if_icmp .ge 29, 3) := by decide +kernel
theorem dX5_countWith_15 : decode cX5_countWith 15 = .ok (.aload_n 0, 1) := by decide +kernel
theorem dX5_countWith_16 : decode cX5_countWith 16 = .ok (.aload_n 0, 1) := by decide +kernel
theorem dX5_countWith_17 : decode cX5_countWith 17 = .ok (.getfield 27, 3) := by decide +kernel
theorem dX5_countWith_20 : decode cX5_countWith 20 = .ok (.iload 5, 2) := by decide +kernel
theorem dX5_countWith_22 : decode cX5_countWith 22 = .ok (.iaload, 1) := by decide +kernel
theorem dX5_countWith_23 : decode cX5_countWith 23 = .ok (.iload_n 1, 1) := by decide +kernel
theorem dX5_countWith_24 : decode cX5_countWith 24 = .ok (.iload_n 2, 1) := by decide +kernel
theorem dX5_countWith_25 : decode cX5_countWith 25 = .ok (.invokevirtual 135, 3) := by decide +kernel
theorem dX5_countWith_28 : decode cX5_countWith 28 = .ok (.iload_n 3, 1) := by decide +kernel
theorem dX5_countWith_29 : decode cX5_countWith 29 = .ok (.if_icmp .ne 6, 3) := by decide +kernel
theorem dX5_countWith_32 : decode cX5_countWith 32 = .ok (.iinc 4 1, 3) := by decide +kernel
theorem dX5_countWith_35 : decode cX5_countWith 35 = .ok (.iinc 5 1, 3) := by decide +kernel
theorem dX5_countWith_38 : decode cX5_countWith 38 = .ok (.goto (-32), 3) := by decide +kernel
theorem dX5_countWith_41 : decode cX5_countWith 41 = .ok (.iload 4, 2) := by decide +kernel
theorem dX5_countWith_43 : decode cX5_countWith 43 = .ok (.ireturn, 1) := by decide +kernel
