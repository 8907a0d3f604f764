theorem dX10_ask_0 : decode cX10_ask 0 = .ok (.iload_n 1, 1) := by decide +kernel
theorem dX10_ask_1 : decode cX10_ask 1 = .ok (.invokestatic 305, 3) := by decide +kernel
theorem dX10_ask_4 : decode cX10_ask 4 = .ok (.ifCond .ne 6, 3) := by decide +kernel
theorem dX10_ask_7 : decode cX10_ask 7 = .ok (.bipush (-2), 2) := by decide +kernel
theorem dX10_ask_9 : decode cX10_ask 9 = .ok (.ireturn, 1) := by decide +kernel
theorem dX10_ask_10 : decode cX10_ask 10 = .ok (.aload_n 0, 1) := by decide +kernel
theorem dX10_ask_11 : decode cX10_ask 11 = .ok (.getfield 68, 3) := by decide +kernel
theorem dX10_ask_14 : decode cX10_ask 14 = .ok (.aload_n 0, 1) := by decide +kernel
theorem dX10_ask_15 : decode cX10_ask 15 = .ok (.getfield 84, 3) := by decide +kernel
theorem dX10_ask_18 : decode cX10_ask 18 = .ok (.aload_n 0, 1) := by decide +kernel
theorem dX10_ask_19 : decode cX10_ask 19 = .ok (.getfield 61, 3) := by decide +kernel
theorem dX10_ask_22 : decode cX10_ask 22 = .ok (.iload_n 1, 1) := by decide +kernel
theorem dX10_ask_23 : decode cX10_ask 23 = .ok (.invokevirtual 308, 3) := by decide +kernel
theorem dX10_ask_26 : decode cX10_ask 26 = .ok (.aload_n 0, 1) := by decide +kernel
theorem dX10_ask_27 : decode cX10_ask 27 = .ok (.getfield 68, 3) := by decide +kernel
theorem dX10_ask_30 : decode cX10_ask 30 = .ok (.aload_n 0, 1) := by decide +kernel
theorem dX10_ask_31 : decode cX10_ask 31 = .ok (.getfield 84, 3) := by decide +kernel
theorem dX10_ask_34 : decode cX10_ask 34 = .ok (.invokevirtual 318, 3) := by decide +kernel
theorem dX10_ask_37 : decode cX10_ask 37 = .ok (.ireturn, 1) := by decide +kernel
theorem dX10_count_0 : decode cX10_count 0 = .ok (.iload_n 1, 1) := by decide +kernel
theorem dX10_count_1 : decode cX10_count 1 = .ok (.tableswitch 51 0 2 #[27, 35, 43], 27) := by decide +kernel
theorem dX10_count_28 : decode cX10_count 28 = .ok (.aload_n 0, 1) := by decide +kernel
theorem dX10_count_29 : decode cX10_count 29 = .ok (.getfield 61, 3) := by decide +kernel
theorem dX10_count_32 : decode cX10_count 32 = .ok (.invokevirtual 321, 3) := by decide +kernel
theorem dX10_count_35 : decode cX10_count 35 = .ok (.ireturn, 1) := by decide +kernel
theorem dX10_count_36 : decode cX10_count 36 = .ok (.aload_n 0, 1) := by decide +kernel
theorem dX10_count_37 : decode cX10_count 37 = .ok (.getfield 61, 3) := by decide +kernel
theorem dX10_count_40 : decode cX10_count 40 = .ok (.invokevirtual 322, 3) := by decide +kernel
theorem dX10_count_43 : decode cX10_count 43 = .ok (.ireturn, 1) := by decide +kernel
theorem dX10_count_44 : decode cX10_count 44 = .ok (.aload_n 0, 1) := by decide +kernel
theorem dX10_count_45 : decode cX10_count 45 = .ok (.getfield 10, 3) := by decide +kernel
theorem dX10_count_48 : decode cX10_count 48 = .ok (.invokevirtual 105, 3) := by decide +kernel
theorem dX10_count_51 : decode cX10_count 51 = .ok (.ireturn, 1) := by decide +kernel
theorem dX10_count_52 : decode cX10_count 52 = .ok (.iconst (-1), 1) := by decide +kernel
theorem dX10_count_53 : decode cX10_count 53 = .ok (.ireturn, 1) := by decide +kernel
theorem dX10_become_0 : decode cX10_become 0 = .ok (.aload_n 1, 1) := by decide +kernel
theorem dX10_become_1 : decode cX10_become 1 = .ok (.invokevirtual 138, 3) := by decide +kernel
theorem dX10_become_4 : decode cX10_become 4 = .ok (.aload_n 0, 1) := by decide +kernel
theorem dX10_become_5 : decode cX10_become 5 = .ok (.getfield 84, 3) := by decide +kernel
theorem dX10_become_8 : decode cX10_become 8 = .ok (.invokevirtual 138, 3) := by decide +kernel
theorem dX10_become_11 : decode cX10_become 11 = .ok (.if_icmp .eq 10, 3) := by decide +kernel
theorem dX10_become_14 : decode cX10_become 14 = .ok (.aload_n 0, 1) := by decide +kernel
theorem dX10_become_15 : decode cX10_become 15 = .ok (.getfield 61, 3) := by decide +kernel
theorem dX10_become_18 : decode cX10_become 18 = .ok (.invokevirtual 325, 3) := by decide +kernel
theorem dX10_become_21 : decode cX10_become 21 = .ok (.aload_n 0, 1) := by decide +kernel
theorem dX10_become_22 : decode cX10_become 22 = .ok (.aload_n 1, 1) := by decide +kernel
theorem dX10_become_23 : decode cX10_become 23 = .ok (.putfield 84, 3) := by decide +kernel
theorem dX10_become_26 : decode cX10_become 26 = .ok (.aload_n 0, 1) := by decide +kernel
theorem dX10_become_27 : decode cX10_become 27 = .ok (.iload_n 2, 1) := by decide +kernel
theorem dX10_become_28 : decode cX10_become 28 = .ok (.putfield 94, 3) := by decide +kernel
theorem dX10_become_31 : decode cX10_become 31 = .ok (.return_, 1) := by decide +kernel
theorem dX10_areCorners_0 : decode cX10_areCorners 0 = .ok (.aload_n 0, 1) := by decide +kernel
theorem dX10_areCorners_1 : decode cX10_areCorners 1 = .ok (.getfield 84, 3) := by decide +kernel
theorem dX10_areCorners_4 : decode cX10_areCorners 4 = .ok (.iload_n 1, 1) := by decide +kernel
theorem dX10_areCorners_5 : decode cX10_areCorners 5 = .ok (.invokevirtual 160, 3) := by decide +kernel
theorem dX10_areCorners_8 : decode cX10_areCorners 8 = .ok (.ifCond .eq 18, 3) := by decide +kernel
theorem dX10_areCorners_11 : decode cX10_areCorners 11 = .ok (.aload_n 0, 1) := by decide +kernel
theorem dX10_areCorners_12 : decode cX10_areCorners 12 = .ok (.getfield 84, 3) := by decide +kernel
theorem dX10_areCorners_15 : decode cX10_areCorners 15 = .ok (.iload_n 2, 1) := by decide +kernel
theorem dX10_areCorners_16 : decode cX10_areCorners 16 = .ok (.invokevirtual 160, 3) := by decide +kernel
theorem dX10_areCorners_19 : decode cX10_areCorners 19 = .ok (.ifCond .eq 7, 3) := by decide +kernel
theorem dX10_areCorners_22 : decode cX10_areCorners 22 = .ok (.iconst 1, 1) := by decide +kernel
theorem dX10_areCorners_23 : decode cX10_areCorners 23 = .ok (.goto 4, 3) := by decide +kernel
theorem dX10_areCorners_26 : decode cX10_areCorners 26 = .ok (.iconst 0, 1) := by decide +kernel
theorem dX10_areCorners_27 : decode cX10_areCorners 27 = .ok (.ireturn, 1) := by decide +kernel
theorem dX10_takeRow_0 : decode cX10_takeRow 0 = .ok (.aload_n 0, 1) := by decide +kernel
theorem dX10_takeRow_1 : decode cX10_takeRow 1 = .ok (.getfield 10, 3) := by decide +kernel
theorem dX10_takeRow_4 : decode cX10_takeRow 4 = .ok (.aload_n 0, 1) := by decide +kernel
theorem dX10_takeRow_5 : decode cX10_takeRow 5 = .ok (.getfield 72, 3) := by decide +kernel
theorem dX10_takeRow_8 : decode cX10_takeRow 8 = .ok (.invokevirtual 240, 3) := by decide +kernel
theorem dX10_takeRow_11 : decode cX10_takeRow 11 = .ok (.istore_n 1, 1) := by decide +kernel
theorem dX10_takeRow_12 : decode cX10_takeRow 12 = .ok (.aload_n 0, 1) := by decide +kernel
theorem dX10_takeRow_13 : decode cX10_takeRow 13 = .ok (.getfield 10, 3) := by decide +kernel
theorem dX10_takeRow_16 : decode cX10_takeRow 16 = .ok (.iconst 0, 1) := by decide +kernel
theorem dX10_takeRow_17 : decode cX10_takeRow 17 = .ok (.invokevirtual 109, 3) := by decide +kernel
theorem dX10_takeRow_20 : decode cX10_takeRow 20 = .ok (.iload_n 1, 1) := by decide +kernel
theorem dX10_takeRow_21 : decode cX10_takeRow 21 = .ok (.aload_n 0, 1) := by decide +kernel
theorem dX10_takeRow_22 : decode cX10_takeRow 22 = .ok (.getfield 84, 3) := by decide +kernel
theorem dX10_takeRow_25 : decode cX10_takeRow 25 = .ok (.invokevirtual 138, 3) := by decide +kernel
theorem dX10_takeRow_28 : decode cX10_takeRow 28 = .ok (.if_icmp .ne 7, 3) := by decide +kernel
theorem dX10_takeRow_31 : decode cX10_takeRow 31 = .ok (.iconst 1, 1) := by decide +kernel
theorem dX10_takeRow_32 : decode cX10_takeRow 32 = .ok (.goto 4, 3) := by decide +kernel
theorem dX10_takeRow_35 : decode cX10_takeRow 35 = .ok (.iconst 0, 1) := by decide +kernel
theorem dX10_takeRow_36 : decode cX10_takeRow 36 = .ok (.ireturn, 1) := by decide +kernel
theorem dX10_isStep_0 : decode cX10_isStep 0 = .ok (.iload_n 0, 1) := by decide +kernel
theorem dX10_isStep_1 : decode cX10_isStep 1 = .ok (.ifCond .lt 14, 3) := by decide +kernel
theorem dX10_isStep_4 : decode cX10_isStep 4 = .ok (.iload_n 0, 1) := by decide +kernel
theorem dX10_isStep_5 : decode cX10_isStep 5 = .ok (.sipush 999, 3) := by decide +kernel
theorem dX10_isStep_8 : decode cX10_isStep 8 = .ok (.if_icmp .gt 7, 3) := by decide +kernel
theorem dX10_isStep_11 : decode cX10_isStep 11 = .ok (.iconst 1, 1) := by decide +kernel
theorem dX10_isStep_12 : decode cX10_isStep 12 = .ok (.goto 4, 3) := by decide +kernel
theorem dX10_isStep_15 : decode cX10_isStep 15 = .ok (.iconst 0, 1) := by decide +kernel
theorem dX10_isStep_16 : decode cX10_isStep 16 = .ok (.ireturn, 1) := by decide +kernel
theorem dX10_isValue_0 : decode cX10_isValue 0 = .ok (.iload_n 0, 1) := by decide +kernel
theorem dX10_isValue_1 : decode cX10_isValue 1 = .ok (.ifCond .lt 14, 3) := by decide +kernel
theorem dX10_isValue_4 : decode cX10_isValue 4 = .ok (.iload_n 0, 1) := by decide +kernel
theorem dX10_isValue_5 : decode cX10_isValue 5 = .ok (.sipush 9999, 3) := by decide +kernel
theorem dX10_isValue_8 : decode cX10_isValue 8 = .ok (.if_icmp .gt 7, 3) := by decide +kernel
theorem dX10_isValue_11 : decode cX10_isValue 11 = .ok (.iconst 1, 1) := by decide +kernel
theorem dX10_isValue_12 : decode cX10_isValue 12 = .ok (.goto 4, 3) := by decide +kernel
theorem dX10_isValue_15 : decode cX10_isValue 15 = .ok (.iconst 0, 1) := by decide +kernel
theorem dX10_isValue_16 : decode cX10_isValue 16 = .ok (.ireturn, 1) := by decide +kernel
