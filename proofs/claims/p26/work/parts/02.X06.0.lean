theorem dX6_init_0 : decode cX6_init 0 = .ok (.aload_n 0, 1) := by decide +kernel
theorem dX6_init_1 : decode cX6_init 1 = .ok (.invokespecial 3, 3) := by decide +kernel
theorem dX6_init_4 : decode cX6_init 4 = .ok (.aload_n 0, 1) := by decide +kernel
theorem dX6_init_5 : decode cX6_init 5 = .ok (.bipush 6, 2) := by decide +kernel
theorem dX6_init_7 : decode cX6_init 7 = .ok (.anewarray 9, 3) := by decide +kernel
theorem dX6_init_10 : decode cX6_init 10 = .ok (.putfield 11, 3) := by decide +kernel
theorem dX6_init_13 : decode cX6_init 13 = .ok (.return_, 1) := by decide +kernel
theorem dX6_withCorners_0 : decode cX6_withCorners 0 = .ok (.iload_n 1, 1) := by decide +kernel
theorem dX6_withCorners_1 : decode cX6_withCorners 1 = .ok (.iconst 4, 1) := by decide +kernel
theorem dX6_withCorners_2 : decode cX6_withCorners 2 = .ok (.if_icmp .lt 9, 3) := by decide +kernel
theorem dX6_withCorners_5 : decode cX6_withCorners 5 = .ok (.iload_n 1, 1) := by decide +kernel
theorem dX6_withCorners_6 : decode cX6_withCorners 6 = .ok (.bipush 9, 2) := by decide +kernel
theorem dX6_withCorners_8 : decode cX6_withCorners 8 = .ok (.if_icmp .le 5, 3) := by decide +kernel
theorem dX6_withCorners_11 : decode cX6_withCorners 11 = .ok (.aconst_null, 1) := by decide +kernel
theorem dX6_withCorners_12 : decode cX6_withCorners 12 = .ok (.areturn, 1) := by decide +kernel
theorem dX6_withCorners_13 : decode cX6_withCorners 13 = .ok (.iload_n 1, 1) := by decide +kernel
theorem dX6_withCorners_14 : decode cX6_withCorners 14 = .ok (.iconst 4, 1) := by decide +kernel
theorem dX6_withCorners_15 : decode cX6_withCorners 15 = .ok (.isub, 1) := by decide +kernel
theorem dX6_withCorners_16 : decode cX6_withCorners 16 = .ok (.istore_n 2, 1) := by decide +kernel
theorem dX6_withCorners_17 : decode cX6_withCorners 17 = .ok (.aload_n 0, 1) := by decide +kernel
theorem dX6_withCorners_18 : decode cX6_withCorners 18 = .ok (.getfield 11, 3) := by decide +kernel
theorem dX6_withCorners_21 : decode cX6_withCorners 21 = .ok (.iload_n 2, 1) := by decide +kernel
theorem dX6_withCorners_22 : decode cX6_withCorners 22 = .ok (.aaload, 1) := by decide +kernel
theorem dX6_withCorners_23 : decode cX6_withCorners 23 = .ok (.ifnonnull 17, 3) := by decide +kernel
theorem dX6_withCorners_26 : decode cX6_withCorners 26 = .ok (.aload_n 0, 1) := by decide +kernel
theorem dX6_withCorners_27 : decode cX6_withCorners 27 = .ok (.getfield 11, 3) := by decide +kernel
theorem dX6_withCorners_30 : decode cX6_withCorners 30 = .ok (.iload_n 2, 1) := by decide +kernel
theorem dX6_withCorners_31 : decode cX6_withCorners 31 = .ok (.new 9, 3) := by decide +kernel
theorem dX6_withCorners_34 : decode cX6_withCorners 34 = .ok (.dup, 1) := by decide +kernel
theorem dX6_withCorners_35 : decode cX6_withCorners 35 = .ok (.iload_n 1, 1) := by decide +kernel
theorem dX6_withCorners_36 : decode cX6_withCorners 36 = .ok (.invokespecial 17, 3) := by decide +kernel
theorem dX6_withCorners_39 : decode cX6_withCorners 39 = .ok (.aastore, 1) := by decide +kernel
theorem dX6_withCorners_40 : decode cX6_withCorners 40 = .ok (.aload_n 0, 1) := by decide +kernel
theorem dX6_withCorners_41 : decode cX6_withCorners 41 = .ok (.getfield 11, 3) := by decide +kernel
theorem dX6_withCorners_44 : decode cX6_withCorners 44 = .ok (.iload_n 2, 1) := by decide +kernel
theorem dX6_withCorners_45 : decode cX6_withCorners 45 = .ok (.aaload, 1) := by decide +kernel
theorem dX6_withCorners_46 : decode cX6_withCorners 46 = .ok (.areturn, 1) := by decide +kernel
