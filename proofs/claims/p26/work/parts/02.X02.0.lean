theorem dX2_init_0 : decode cX2_init 0 = .ok (.aload_n 0, 1) := by decide +kernel
theorem dX2_init_1 : decode cX2_init 1 = .ok (.invokespecial 3, 3) := by decide +kernel
theorem dX2_init_4 : decode cX2_init 4 = .ok (.aload_n 0, 1) := by decide +kernel
theorem dX2_init_5 : decode cX2_init 5 = .ok (.bipush 10, 2) := by decide +kernel
theorem dX2_init_7 : decode cX2_init 7 = .ok (.newarray .int, 2) := by decide +kernel
theorem dX2_init_9 : decode cX2_init 9 = .ok (.putfield 11, 3) := by decide +kernel
theorem dX2_init_12 : decode cX2_init 12 = .ok (.aload_n 0, 1) := by decide +kernel
theorem dX2_init_13 : decode cX2_init 13 = .ok (.iconst 1, 1) := by decide +kernel
theorem dX2_init_14 : decode cX2_init 14 = .ok (.putfield 15, 3) := by decide +kernel
theorem dX2_init_17 : decode cX2_init 17 = .ok (.aload_n 0, 1) := by decide +kernel
theorem dX2_init_18 : decode cX2_init 18 = .ok (.getfield 11, 3) := by decide +kernel
theorem dX2_init_21 : decode cX2_init 21 = .ok (.iconst 0, 1) := by decide +kernel
theorem dX2_init_22 : decode cX2_init 22 = .ok (.iconst 1, 1) := by decide +kernel
theorem dX2_init_23 : decode cX2_init 23 = .ok (.iastore, 1) := by decide +kernel
theorem dX2_init_24 : decode cX2_init 24 = .ok (.return_, 1) := by decide +kernel
theorem dX2_size_0 : decode cX2_size 0 = .ok (.aload_n 0, 1) := by decide +kernel
theorem dX2_size_1 : decode cX2_size 1 = .ok (.getfield 15, 3) := by decide +kernel
theorem dX2_size_4 : decode cX2_size 4 = .ok (.ireturn, 1) := by decide +kernel
theorem dX2_hasPlace_0 : decode cX2_hasPlace 0 = .ok (.iload_n 1, 1) := by decide +kernel
theorem dX2_hasPlace_1 : decode cX2_hasPlace 1 = .ok (.ifCond .lt 15, 3) := by decide +kernel
theorem dX2_hasPlace_4 : decode cX2_hasPlace 4 = .ok (.iload_n 1, 1) := by decide +kernel
theorem dX2_hasPlace_5 : decode cX2_hasPlace 5 = .ok (.aload_n 0, 1) := by decide +kernel
theorem dX2_hasPlace_6 : decode cX2_hasPlace 6 = .ok (.getfield 15, 3) := by decide +kernel
theorem dX2_hasPlace_9 : decode cX2_hasPlace 9 = .ok (.if_icmp .ge 7, 3) := by decide +kernel
theorem dX2_hasPlace_12 : decode cX2_hasPlace 12 = .ok (.iconst 1, 1) := by decide +kernel
theorem dX2_hasPlace_13 : decode cX2_hasPlace 13 = .ok (.goto 4, 3) := by decide +kernel
theorem dX2_hasPlace_16 : decode cX2_hasPlace 16 = .ok (.iconst 0, 1) := by decide +kernel
theorem dX2_hasPlace_17 : decode cX2_hasPlace 17 = .ok (.ireturn, 1) := by decide +kernel
theorem dX2_accepts_0 : decode cX2_accepts 0 = .ok (.iload_n 2, 1) := by decide +kernel
theorem dX2_accepts_1 : decode cX2_accepts 1 = .ok (.iconst 1, 1) := by decide +kernel
theorem dX2_accepts_2 : decode cX2_accepts 2 = .ok (.if_icmp .lt 15, 3) := by decide +kernel
theorem dX2_accepts_5 : decode cX2_accepts 5 = .ok (.iload_n 2, 1) := by decide +kernel
theorem dX2_accepts_6 : decode cX2_accepts 6 = .ok (.bipush 10, 2) := by decide +kernel
theorem dX2_accepts_8 : decode cX2_accepts 8 = .ok (.if_icmp .gt 9, 3) := by decide +kernel
theorem dX2_accepts_11 : decode cX2_accepts 11 = .ok (.iload_n 2, 1) := by decide +kernel
theorem dX2_accepts_12 : decode cX2_accepts 12 = .ok (.aload_n 1, 1) := by decide +kernel
theorem dX2_accepts_13 : decode cX2_accepts 13 = .ok (.arraylength, 1) := by decide +kernel
theorem dX2_accepts_14 : decode cX2_accepts 14 = .ok (.if_icmp .le 5, 3) := by decide +kernel
theorem dX2_accepts_17 : decode cX2_accepts 17 = .ok (.iconst 0, 1) := by decide +kernel
theorem dX2_accepts_18 : decode cX2_accepts 18 = .ok (.ireturn, 1) := by decide +kernel
theorem dX2_accepts_19 : decode cX2_accepts 19 = .ok (.iconst 0, 1) := by decide +kernel
theorem dX2_accepts_20 : decode cX2_accepts 20 = .ok (.istore_n 3, 1) := by decide +kernel
theorem dX2_accepts_21 : decode cX2_accepts 21 = .ok (.iload_n 3, 1) := by decide +kernel
theorem dX2_accepts_22 : decode cX2_accepts 22 = .ok (.iload_n 2, 1) := by decide +kernel
theorem dX2_accepts_23 : decode cX2_accepts 23 = .ok (.if_icmp .ge 26, 3) := by decide +kernel
theorem dX2_accepts_26 : decode cX2_accepts 26 = .ok (.aload_n 1, 1) := by decide +kernel
theorem dX2_accepts_27 : decode cX2_accepts 27 = .ok (.iload_n 3, 1) := by decide +kernel
theorem dX2_accepts_28 : decode cX2_accepts 28 = .ok (.iaload, 1) := by decide +kernel
theorem dX2_accepts_29 : decode cX2_accepts 29 = .ok (.iconst 1, 1) := by decide +kernel
theorem dX2_accepts_30 : decode cX2_accepts 30 = .ok (.if_icmp .lt 11, 3) := by decide +kernel
theorem dX2_accepts_33 : decode cX2_accepts 33 = .ok (.aload_n 1, 1) := by decide +kernel
theorem dX2_accepts_34 : decode cX2_accepts 34 = .ok (.iload_n 3, 1) := by decide +kernel
theorem dX2_accepts_35 : decode cX2_accepts 35 = .ok (.iaload, 1) := by decide +kernel
theorem dX2_accepts_36 : decode cX2_accepts 36 = .ok (.bipush 20, 2) := by decide +kernel
theorem dX2_accepts_38 : decode cX2_accepts 38 = .ok (.if_icmp .le 5, 3) := by decide +kernel
theorem dX2_accepts_41 : decode cX2_accepts 41 = .ok (.iconst 0, 1) := by decide +kernel
theorem dX2_accepts_42 : decode cX2_accepts 42 = .ok (.ireturn, 1) := by decide +kernel
theorem dX2_accepts_43 : decode cX2_accepts 43 = .ok (.iinc 3 1, 3) := by decide +kernel
theorem dX2_accepts_46 : decode cX2_accepts 46 = .ok (.goto (-25), 3) := by decide +kernel
theorem dX2_accepts_49 : decode cX2_accepts 49 = .ok (.iconst 1, 1) := by decide +kernel
theorem dX2_accepts_50 : decode cX2_accepts 50 = .ok (.ireturn, 1) := by decide +kernel
theorem dX2_become_0 : decode cX2_become 0 = .ok (.aload_n 0, 1) := by decide +kernel
theorem dX2_become_1 : decode cX2_become 1 = .ok (.iload_n 2, 1) := by decide +kernel
theorem dX2_become_2 : decode cX2_become 2 = .ok (.bipush 10, 2) := by decide +kernel
theorem dX2_become_4 : decode cX2_become 4 = .ok (.invokestatic 19, 3) := by decide +kernel
theorem dX2_become_7 : decode cX2_become 7 = .ok (.putfield 15, 3) := by decide +kernel
theorem dX2_become_10 : decode cX2_become 10 = .ok (.iconst 0, 1) := by decide +kernel
theorem dX2_become_11 : decode cX2_become 11 = .ok (.istore_n 3, 1) := by decide +kernel
theorem dX2_become_12 : decode cX2_become 12 = .ok (.iload_n 3, 1) := by decide +kernel
theorem dX2_become_13 : decode cX2_become 13 = .ok (.aload_n 0, 1) := by decide +kernel
theorem dX2_become_14 : decode cX2_become 14 = .ok (.getfield 15, 3) := by decide +kernel
theorem dX2_become_17 : decode cX2_become 17 = .ok (.if_icmp .ge 24, 3) := by decide +kernel
theorem dX2_become_20 : decode cX2_become 20 = .ok (.iload_n 3, 1) := by decide +kernel
theorem dX2_become_21 : decode cX2_become 21 = .ok (.aload_n 1, 1) := by decide +kernel
theorem dX2_become_22 : decode cX2_become 22 = .ok (.arraylength, 1) := by decide +kernel
theorem dX2_become_23 : decode cX2_become 23 = .ok (.if_icmp .ge 18, 3) := by decide +kernel
theorem dX2_become_26 : decode cX2_become 26 = .ok (.aload_n 0, 1) := by decide +kernel
theorem dX2_become_27 : decode cX2_become 27 = .ok (.getfield 11, 3) := by decide +kernel
theorem dX2_become_30 : decode cX2_become 30 = .ok (.iload_n 3, 1) := by decide +kernel
theorem dX2_become_31 : decode cX2_become 31 = .ok (.aload_n 1, 1) := by decide +kernel
theorem dX2_become_32 : decode cX2_become 32 = .ok (.iload_n 3, 1) := by decide +kernel
theorem dX2_become_33 : decode cX2_become 33 = .ok (.iaload, 1) := by decide +kernel
theorem dX2_become_34 : decode cX2_become 34 = .ok (.iastore, 1) := by decide +kernel
theorem dX2_become_35 : decode cX2_become 35 = .ok (.iinc 3 1, 3) := by decide +kernel
theorem dX2_become_38 : decode cX2_become 38 = .ok (.goto (-26), 3) := by decide +kernel
theorem dX2_become_41 : decode cX2_become 41 = .ok (.aload_n 0, 1) := by decide +kernel
theorem dX2_become_42 : decode cX2_become 42 = .ok (.getfield 15, 3) := by decide +kernel
theorem dX2_become_45 : decode cX2_become 45 = .ok (.ireturn, 1) := by decide +kernel
theorem dX2_at_0 : decode cX2_at 0 = .ok (.aload_n 0, 1) := by decide +kernel
theorem dX2_at_1 : decode cX2_at 1 = .ok (.getfield 11, 3) := by decide +kernel
theorem dX2_at_4 : decode cX2_at 4 = .ok (.aload_n 0, 1) := by decide +kernel
theorem dX2_at_5 : decode cX2_at 5 = .ok (.iload_n 1, 1) := by decide +kernel
theorem dX2_at_6 : decode cX2_at 6 = .ok (.invokevirtual 25, 3) := by decide +kernel
theorem dX2_at_9 : decode cX2_at 9 = .ok (.iaload, 1) := by decide +kernel
theorem dX2_at_10 : decode cX2_at 10 = .ok (.ireturn, 1) := by decide +kernel
theorem dX2_wrapped_0 : decode cX2_wrapped 0 = .ok (.aload_n 0, 1) := by decide +kernel
theorem dX2_wrapped_1 : decode cX2_wrapped 1 = .ok (.getfield 15, 3) := by decide +kernel
theorem dX2_wrapped_4 : decode cX2_wrapped 4 = .ok (.ifCond .le 14, 3) := by decide +kernel
theorem dX2_wrapped_7 : decode cX2_wrapped 7 = .ok (.iload_n 1, 1) := by decide +kernel
theorem dX2_wrapped_8 : decode cX2_wrapped 8 = .ok (.aload_n 0, 1) := by decide +kernel
theorem dX2_wrapped_9 : decode cX2_wrapped 9 = .ok (.getfield 15, 3) := by decide +kernel
theorem dX2_wrapped_12 : decode cX2_wrapped 12 = .ok (.invokestatic 29, 3) := by decide +kernel
theorem dX2_wrapped_15 : decode cX2_wrapped 15 = .ok (.goto 4, 3) := by decide +kernel
theorem dX2_wrapped_18 : decode cX2_wrapped 18 = .ok (.iconst 0, 1) := by decide +kernel
theorem dX2_wrapped_19 : decode cX2_wrapped 19 = .ok (.ireturn, 1) := by decide +kernel
theorem dX2_entryAt_0 : decode cX2_entryAt 0 = .ok (.iload_n 2, 1) := by decide +kernel
theorem dX2_entryAt_1 : decode cX2_entryAt 1 = .ok (.ifCond .gt 5, 3) := by decide +kernel
theorem dX2_entryAt_4 : decode cX2_entryAt 4 = .ok (.lconst 0, 1) := by decide +kernel
theorem dX2_entryAt_5 : decode cX2_entryAt 5 = .ok (.lreturn, 1) := by decide +kernel
theorem dX2_entryAt_6 : decode cX2_entryAt 6 = .ok (.lconst 0, 1) := by decide +kernel
theorem dX2_entryAt_7 : decode cX2_entryAt 7 = .ok (.lstore_n 3, 1) := by decide +kernel
theorem dX2_entryAt_8 : decode cX2_entryAt 8 = .ok (.lconst 1, 1) := by decide +kernel
theorem dX2_entryAt_9 : decode cX2_entryAt 9 = .ok (.lstore 5, 2) := by decide +kernel
theorem dX2_entryAt_11 : decode cX2_entryAt 11 = .ok (.iconst 1, 1) := by decide +kernel
theorem dX2_entryAt_12 : decode cX2_entryAt 12 = .ok (.istore 7, 2) := by decide +kernel
theorem dX2_entryAt_14 : decode cX2_entryAt 14 = .ok (.iload 7, 2) := by decide +kernel
theorem dX2_entryAt_16 : decode cX2_entryAt 16 = .ok (.iload_n 2, 1) := by decide +kernel
theorem dX2_entryAt_17 : decode cX2_entryAt 17 = .ok (.if_icmp .ge 39, 3) := by decide +kernel
theorem dX2_entryAt_20 : decode cX2_entryAt 20 = .ok (.iload 7, 2) := by decide +kernel
theorem dX2_entryAt_22 : decode cX2_entryAt 22 = .ok (.bipush 12, 2) := by decide +kernel
theorem dX2_entryAt_24 : decode cX2_entryAt 24 = .ok (.if_icmp .ge 32, 3) := by decide +kernel
theorem dX2_entryAt_27 : decode cX2_entryAt 27 = .ok (.aload_n 0, 1) := by decide +kernel
theorem dX2_entryAt_28 : decode cX2_entryAt 28 = .ok (.iload_n 1, 1) := by decide +kernel
theorem dX2_entryAt_29 : decode cX2_entryAt 29 = .ok (.iload 7, 2) := by decide +kernel
theorem dX2_entryAt_31 : decode cX2_entryAt 31 = .ok (.iadd, 1) := by decide +kernel
theorem dX2_entryAt_32 : decode cX2_entryAt 32 = .ok (.invokevirtual 32, 3) := by decide +kernel
theorem dX2_entryAt_35 : decode cX2_entryAt 35 = .ok (.i2l, 1) := by decide +kernel
theorem dX2_entryAt_36 : decode cX2_entryAt 36 = .ok (.lload 5, 2) := by decide +kernel
theorem dX2_entryAt_38 : decode cX2_entryAt 38 = .ok (.lmul, 1) := by decide +kernel
theorem dX2_entryAt_39 : decode cX2_entryAt 39 = .ok (.lload_n 3, 1) := by decide +kernel
theorem dX2_entryAt_40 : decode cX2_entryAt 40 = .ok (.lsub, 1) := by decide +kernel
theorem dX2_entryAt_41 : decode cX2_entryAt 41 = .ok (.lstore 8, 2) := by decide +kernel
theorem dX2_entryAt_43 : decode cX2_entryAt 43 = .ok (.lload 5, 2) := by decide +kernel
theorem dX2_entryAt_45 : decode cX2_entryAt 45 = .ok (.lstore_n 3, 1) := by decide +kernel
theorem dX2_entryAt_46 : decode cX2_entryAt 46 = .ok (.lload 8, 2) := by decide +kernel
theorem dX2_entryAt_48 : decode cX2_entryAt 48 = .ok (.lstore 5, 2) := by decide +kernel
theorem dX2_entryAt_50 : decode cX2_entryAt 50 = .ok (.iinc 7 1, 3) := by decide +kernel
theorem dX2_entryAt_53 : decode cX2_entryAt 53 = .ok (.goto (-39), 3) := by decide +kernel
theorem dX2_entryAt_56 : decode cX2_entryAt 56 = .ok (.lload 5, 2) := by decide +kernel
theorem dX2_entryAt_58 : decode cX2_entryAt 58 = .ok (.lreturn, 1) := by decide +kernel
theorem dX2_breakLength_0 : decode cX2_breakLength 0 = .ok (.iconst 2, 1) := by decide +kernel
theorem dX2_breakLength_1 : decode cX2_breakLength 1 = .ok (.istore_n 1, 1) := by decide +kernel
theorem dX2_breakLength_2 : decode cX2_breakLength 2 = .ok (.iload_n 1, 1) := by decide +kernel
theorem dX2_breakLength_3 : decode cX2_breakLength 3 = .ok (.bipush 12, 2) := by decide +kernel
theorem dX2_breakLength_5 : decode cX2_breakLength 5 = .ok (.if_icmp .gt 20, 3) := by decide +kernel
theorem dX2_breakLength_8 : decode cX2_breakLength 8 = .ok (.aload_n 0, 1) := by decide +kernel
theorem dX2_breakLength_9 : decode cX2_breakLength 9 = .ok (.iload_n 1, 1) := by decide +kernel
theorem dX2_breakLength_10 : decode cX2_breakLength 10 = .ok (.invokevirtual 35, 3) := by decide +kernel
theorem dX2_breakLength_13 : decode cX2_breakLength 13 = .ok (.iconst (-1), 1) := by decide +kernel
theorem dX2_breakLength_14 : decode cX2_breakLength 14 = .ok (.if_icmp .eq 5, 3) := by decide +kernel
theorem dX2_breakLength_17 : decode cX2_breakLength 17 = .ok (.iload_n 1, 1) := by decide +kernel
theorem dX2_breakLength_18 : decode cX2_breakLength 18 = .ok (.ireturn, 1) := by decide +kernel
theorem dX2_breakLength_19 : decode cX2_breakLength 19 = .ok (.iinc 1 1, 3) := by decide +kernel
theorem dX2_breakLength_22 : decode cX2_breakLength 22 = .ok (.goto (-20), 3) := by decide +kernel
theorem dX2_breakLength_25 : decode cX2_breakLength 25 = .ok (.iconst (-1), 1) := by decide +kernel
theorem dX2_breakLength_26 : decode cX2_breakLength 26 = .ok (.ireturn, 1) := by decide +kernel
theorem dX2_breakPlace_0 : decode cX2_breakPlace 0 = .ok (.iconst 0, 1) := by decide +kernel
theorem dX2_breakPlace_1 : decode cX2_breakPlace 1 = .ok (.istore_n 2, 1) := by decide +kernel
theorem dX2_breakPlace_2 : decode cX2_breakPlace 2 = .ok (.iload_n 2, 1) := by decide +kernel
theorem dX2_breakPlace_3 : decode cX2_breakPlace 3 = .ok (.aload_n 0, 1) := by decide +kernel
theorem dX2_breakPlace_4 : decode cX2_breakPlace 4 = .ok (.getfield 15, 3) := by decide +kernel
theorem dX2_breakPlace_7 : decode cX2_breakPlace 7 = .ok (.if_icmp .ge 22, 3) := by decide +kernel
theorem dX2_breakPlace_10 : decode cX2_breakPlace 10 = .ok (.aload_n 0, 1) := by decide +kernel
theorem dX2_breakPlace_11 : decode cX2_breakPlace 11 = .ok (.iload_n 2, 1) := by decide +kernel
theorem dX2_breakPlace_12 : decode cX2_breakPlace 12 = .ok (.iload_n 1, 1) := by decide +kernel
theorem dX2_breakPlace_13 : decode cX2_breakPlace 13 = .ok (.invokevirtual 38, 3) := by decide +kernel
theorem dX2_breakPlace_16 : decode cX2_breakPlace 16 = .ok (.lconst 0, 1) := by decide +kernel
theorem dX2_breakPlace_17 : decode cX2_breakPlace 17 = .ok (.lcmp, 1) := by decide +kernel
theorem dX2_breakPlace_18 : decode cX2_breakPlace 18 = .ok (.ifCond .gt 5, 3) := by decide +kernel
theorem dX2_breakPlace_21 : decode cX2_breakPlace 21 = .ok (.iload_n 2, 1) := by decide +kernel
theorem dX2_breakPlace_22 : decode cX2_breakPlace 22 = .ok (.ireturn, 1) := by decide +kernel
theorem dX2_breakPlace_23 : decode cX2_breakPlace 23 = .ok (.iinc 2 1, 3) := by decide +kernel
theorem dX2_breakPlace_26 : decode cX2_breakPlace 26 = .ok (.goto (-24), 3) := by decide +kernel
theorem dX2_breakPlace_29 : decode cX2_breakPlace 29 = .ok (.iconst (-1), 1) := by decide +kernel
theorem dX2_breakPlace_30 : decode cX2_breakPlace 30 = .ok (.ireturn, 1) := by decide +kernel
theorem dX2_comesBack_0 : decode cX2_comesBack 0 = .ok (.aload_n 0, 1) := by decide +kernel
theorem dX2_comesBack_1 : decode cX2_comesBack 1 = .ok (.iload_n 1, 1) := by decide +kernel
theorem dX2_comesBack_2 : decode cX2_comesBack 2 = .ok (.lconst 0, 1) := by decide +kernel
theorem dX2_comesBack_3 : decode cX2_comesBack 3 = .ok (.invokevirtual 42, 3) := by decide +kernel
theorem dX2_comesBack_6 : decode cX2_comesBack 6 = .ok (.ifCond .eq 26, 3) := by decide +kernel
theorem dX2_comesBack_9 : decode cX2_comesBack 9 = .ok (.iload_n 1, 1) := by decide +kernel
theorem dX2_comesBack_10 : decode cX2_comesBack 10 = .ok (.bipush 12, 2) := by decide +kernel
theorem dX2_comesBack_12 : decode cX2_comesBack 12 = .ok (.if_icmp .eq 16, 3) := by decide +kernel
theorem dX2_comesBack_15 : decode cX2_comesBack 15 = .ok (.aload_n 0, 1) := by decide +kernel
theorem dX2_comesBack_16 : decode cX2_comesBack 16 = .ok (.iload_n 1, 1) := by decide +kernel
theorem dX2_comesBack_17 : decode cX2_comesBack 17 = .ok (.iconst 1, 1) := by decide +kernel
theorem dX2_comesBack_18 : decode cX2_comesBack 18 = .ok (.iadd, 1) := by decide +kernel
theorem dX2_comesBack_19 : decode cX2_comesBack 19 = .ok (.ldc2_w 46, 3) := by decide +kernel
theorem dX2_comesBack_22 : decode cX2_comesBack 22 = .ok (.invokevirtual 42, 3) := by decide +kernel
theorem dX2_comesBack_25 : decode cX2_comesBack 25 = .ok (.ifCond .eq 7, 3) := by decide +kernel
theorem dX2_comesBack_28 : decode cX2_comesBack 28 = .ok (.iconst 1, 1) := by decide +kernel
theorem dX2_comesBack_29 : decode cX2_comesBack 29 = .ok (.goto 4, 3) := by decide +kernel
theorem dX2_comesBack_32 : decode cX2_comesBack 32 = .ok (.iconst 0, 1) := by decide +kernel
theorem dX2_comesBack_33 : decode cX2_comesBack 33 = .ok (.ireturn, 1) := by decide +kernel
theorem dX2_allAre_0 : decode cX2_allAre 0 = .ok (.iconst 0, 1) := by decide +kernel
theorem dX2_allAre_1 : decode cX2_allAre 1 = .ok (.istore 4, 2) := by decide +kernel
theorem dX2_allAre_3 : decode cX2_allAre 3 = .ok (.iload 4, 2) := by decide +kernel
theorem dX2_allAre_5 : decode cX2_allAre 5 = .ok (.aload_n 0, 1) := by decide +kernel
theorem dX2_allAre_6 : decode cX2_allAre 6 = .ok (.getfield 15, 3) := by decide +kernel
theorem dX2_allAre_9 : decode cX2_allAre 9 = .ok (.if_icmp .ge 23, 3) := by decide +kernel
theorem dX2_allAre_12 : decode cX2_allAre 12 = .ok (.aload_n 0, 1) := by decide +kernel
theorem dX2_allAre_13 : decode cX2_allAre 13 = .ok (.iload 4, 2) := by decide +kernel
theorem dX2_allAre_15 : decode cX2_allAre 15 = .ok (.iload_n 1, 1) := by decide +kernel
theorem dX2_allAre_16 : decode cX2_allAre 16 = .ok (.invokevirtual 38, 3) := by decide +kernel
theorem dX2_allAre_19 : decode cX2_allAre 19 = .ok (.lload_n 2, 1) := by decide +kernel
theorem dX2_allAre_20 : decode cX2_allAre 20 = .ok (.lcmp, 1) := by decide +kernel
theorem dX2_allAre_21 : decode cX2_allAre 21 = .ok (.ifCond .eq 5, 3) := by decide +kernel
theorem dX2_allAre_24 : decode cX2_allAre 24 = .ok (.iconst 0, 1) := by decide +kernel
theorem dX2_allAre_25 : decode cX2_allAre 25 = .ok (.ireturn, 1) := by decide +kernel
theorem dX2_allAre_26 : decode cX2_allAre 26 = .ok (.iinc 4 1, 3) := by decide +kernel
theorem dX2_allAre_29 : decode cX2_allAre 29 = .ok (.goto (-26), 3) := by decide +kernel
theorem dX2_allAre_32 : decode cX2_allAre 32 = .ok (.iconst 1, 1) := by decide +kernel
theorem dX2_allAre_33 : decode cX2_allAre 33 = .ok (.ireturn, 1) := by decide +kernel
theorem dX2_growthOfRound_0 : decode cX2_growthOfRound 0 = .ok (.aload_n 0, 1) := by decide +kernel
theorem dX2_growthOfRound_1 : decode cX2_growthOfRound 1 = .ok (.iconst 0, 1) := by decide +kernel
theorem dX2_growthOfRound_2 : decode cX2_growthOfRound 2 = .ok (.aload_n 0, 1) := by decide +kernel
theorem dX2_growthOfRound_3 : decode cX2_growthOfRound 3 = .ok (.getfield 15, 3) := by decide +kernel
theorem dX2_growthOfRound_6 : decode cX2_growthOfRound 6 = .ok (.iconst 1, 1) := by decide +kernel
theorem dX2_growthOfRound_7 : decode cX2_growthOfRound 7 = .ok (.iadd, 1) := by decide +kernel
theorem dX2_growthOfRound_8 : decode cX2_growthOfRound 8 = .ok (.invokevirtual 38, 3) := by decide +kernel
theorem dX2_growthOfRound_11 : decode cX2_growthOfRound 11 = .ok (.aload_n 0, 1) := by decide +kernel
theorem dX2_growthOfRound_12 : decode cX2_growthOfRound 12 = .ok (.iconst 1, 1) := by decide +kernel
theorem dX2_growthOfRound_13 : decode cX2_growthOfRound 13 = .ok (.aload_n 0, 1) := by decide +kernel
theorem dX2_growthOfRound_14 : decode cX2_growthOfRound 14 = .ok (.getfield 15, 3) := by decide +kernel
theorem dX2_growthOfRound_17 : decode cX2_growthOfRound 17 = .ok (.iconst 1, 1) := by decide +kernel
theorem dX2_growthOfRound_18 : decode cX2_growthOfRound 18 = .ok (.isub, 1) := by decide +kernel
theorem dX2_growthOfRound_19 : decode cX2_growthOfRound 19 = .ok (.invokevirtual 38, 3) := by decide +kernel
theorem dX2_growthOfRound_22 : decode cX2_growthOfRound 22 = .ok (.lsub, 1) := by decide +kernel
theorem dX2_growthOfRound_23 : decode cX2_growthOfRound 23 = .ok (.lreturn, 1) := by decide +kernel
theorem dX2_canGlue_0 : decode cX2_canGlue 0 = .ok (.aload_n 0, 1) := by decide +kernel
theorem dX2_canGlue_1 : decode cX2_canGlue 1 = .ok (.getfield 15, 3) := by decide +kernel
theorem dX2_canGlue_4 : decode cX2_canGlue 4 = .ok (.bipush 10, 2) := by decide +kernel
theorem dX2_canGlue_6 : decode cX2_canGlue 6 = .ok (.if_icmp .lt 5, 3) := by decide +kernel
theorem dX2_canGlue_9 : decode cX2_canGlue 9 = .ok (.iconst 0, 1) := by decide +kernel
theorem dX2_canGlue_10 : decode cX2_canGlue 10 = .ok (.ireturn, 1) := by decide +kernel
theorem dX2_canGlue_11 : decode cX2_canGlue 11 = .ok (.aload_n 0, 1) := by decide +kernel
theorem dX2_canGlue_12 : decode cX2_canGlue 12 = .ok (.getfield 15, 3) := by decide +kernel
theorem dX2_canGlue_15 : decode cX2_canGlue 15 = .ok (.iconst 1, 1) := by decide +kernel
theorem dX2_canGlue_16 : decode cX2_canGlue 16 = .ok (.if_icmp .ne 7, 3) := by decide +kernel
theorem dX2_canGlue_19 : decode cX2_canGlue 19 = .ok (.iconst 2, 1) := by decide +kernel
theorem dX2_canGlue_20 : decode cX2_canGlue 20 = .ok (.goto 4, 3) := by decide +kernel
theorem dX2_canGlue_23 : decode cX2_canGlue 23 = .ok (.iconst 1, 1) := by decide +kernel
theorem dX2_canGlue_24 : decode cX2_canGlue 24 = .ok (.istore_n 2, 1) := by decide +kernel
theorem dX2_canGlue_25 : decode cX2_canGlue 25 = .ok (.aload_n 0, 1) := by decide +kernel
theorem dX2_canGlue_26 : decode cX2_canGlue 26 = .ok (.iload_n 1, 1) := by decide +kernel
theorem dX2_canGlue_27 : decode cX2_canGlue 27 = .ok (.invokevirtual 32, 3) := by decide +kernel
theorem dX2_canGlue_30 : decode cX2_canGlue 30 = .ok (.iload_n 2, 1) := by decide +kernel
theorem dX2_canGlue_31 : decode cX2_canGlue 31 = .ok (.iadd, 1) := by decide +kernel
theorem dX2_canGlue_32 : decode cX2_canGlue 32 = .ok (.bipush 20, 2) := by decide +kernel
theorem dX2_canGlue_34 : decode cX2_canGlue 34 = .ok (.if_icmp .gt 21, 3) := by decide +kernel
theorem dX2_canGlue_37 : decode cX2_canGlue 37 = .ok (.aload_n 0, 1) := by decide +kernel
theorem dX2_canGlue_38 : decode cX2_canGlue 38 = .ok (.iload_n 1, 1) := by decide +kernel
theorem dX2_canGlue_39 : decode cX2_canGlue 39 = .ok (.iconst 1, 1) := by decide +kernel
theorem dX2_canGlue_40 : decode cX2_canGlue 40 = .ok (.iadd, 1) := by decide +kernel
theorem dX2_canGlue_41 : decode cX2_canGlue 41 = .ok (.invokevirtual 32, 3) := by decide +kernel
theorem dX2_canGlue_44 : decode cX2_canGlue 44 = .ok (.iload_n 2, 1) := by decide +kernel
theorem dX2_canGlue_45 : decode cX2_canGlue 45 = .ok (.iadd, 1) := by decide +kernel
theorem dX2_canGlue_46 : decode cX2_canGlue 46 = .ok (.bipush 20, 2) := by decide +kernel
theorem dX2_canGlue_48 : decode cX2_canGlue 48 = .ok (.if_icmp .gt 7, 3) := by decide +kernel
theorem dX2_canGlue_51 : decode cX2_canGlue 51 = .ok (.iconst 1, 1) := by decide +kernel
theorem dX2_canGlue_52 : decode cX2_canGlue 52 = .ok (.goto 4, 3) := by decide +kernel
theorem dX2_canGlue_55 : decode cX2_canGlue 55 = .ok (.iconst 0, 1) := by decide +kernel
theorem dX2_canGlue_56 : decode cX2_canGlue 56 = .ok (.ireturn, 1) := by decide +kernel
theorem dX2_glueBehind_0 : decode cX2_glueBehind 0 = .ok (.aload_n 0, 1) := by decide +kernel
theorem dX2_glueBehind_1 : decode cX2_glueBehind 1 = .ok (.iload_n 1, 1) := by decide +kernel
theorem dX2_glueBehind_2 : decode cX2_glueBehind 2 = .ok (.invokevirtual 48, 3) := by decide +kernel
theorem dX2_glueBehind_5 : decode cX2_glueBehind 5 = .ok (.ifCond .eq 11, 3) := by decide +kernel
theorem dX2_glueBehind_8 : decode cX2_glueBehind 8 = .ok (.aload_n 0, 1) := by decide +kernel
theorem dX2_glueBehind_9 : decode cX2_glueBehind 9 = .ok (.iload_n 1, 1) := by decide +kernel
theorem dX2_glueBehind_10 : decode cX2_glueBehind 10 = .ok (.invokevirtual 52, 3) := by decide +kernel
theorem dX2_glueBehind_13 : decode cX2_glueBehind 13 = .ok (.ifCond .ne 8, 3) := by decide +kernel
theorem dX2_glueBehind_16 : decode cX2_glueBehind 16 = .ok (.aload_n 0, 1) := by decide +kernel
theorem dX2_glueBehind_17 : decode cX2_glueBehind 17 = .ok (.getfield 15, 3) := by decide +kernel
theorem dX2_glueBehind_20 : decode cX2_glueBehind 20 = .ok (.ireturn, 1) := by decide +kernel
theorem dX2_glueBehind_21 : decode cX2_glueBehind 21 = .ok (.aload_n 0, 1) := by decide +kernel
theorem dX2_glueBehind_22 : decode cX2_glueBehind 22 = .ok (.getfield 11, 3) := by decide +kernel
theorem dX2_glueBehind_25 : decode cX2_glueBehind 25 = .ok (.iload_n 1, 1) := by decide +kernel
theorem dX2_glueBehind_26 : decode cX2_glueBehind 26 = .ok (.dup2, 1) := by decide +kernel
theorem dX2_glueBehind_27 : decode cX2_glueBehind 27 = .ok (.iaload, 1) := by decide +kernel
theorem dX2_glueBehind_28 : decode cX2_glueBehind 28 = .ok (.iconst 1, 1) := by decide +kernel
theorem dX2_glueBehind_29 : decode cX2_glueBehind 29 = .ok (.iadd, 1) := by decide +kernel
theorem dX2_glueBehind_30 : decode cX2_glueBehind 30 = .ok (.iastore, 1) := by decide +kernel
theorem dX2_glueBehind_31 : decode cX2_glueBehind 31 = .ok (.aload_n 0, 1) := by decide +kernel
theorem dX2_glueBehind_32 : decode cX2_glueBehind 32 = .ok (.getfield 11, 3) := by decide +kernel
theorem dX2_glueBehind_35 : decode cX2_glueBehind 35 = .ok (.aload_n 0, 1) := by decide +kernel
theorem dX2_glueBehind_36 : decode cX2_glueBehind 36 = .ok (.iload_n 1, 1) := by decide +kernel
theorem dX2_glueBehind_37 : decode cX2_glueBehind 37 = .ok (.iconst 1, 1) := by decide +kernel
theorem dX2_glueBehind_38 : decode cX2_glueBehind 38 = .ok (.iadd, 1) := by decide +kernel
theorem dX2_glueBehind_39 : decode cX2_glueBehind 39 = .ok (.invokevirtual 25, 3) := by decide +kernel
theorem dX2_glueBehind_42 : decode cX2_glueBehind 42 = .ok (.dup2, 1) := by decide +kernel
theorem dX2_glueBehind_43 : decode cX2_glueBehind 43 = .ok (.iaload, 1) := by decide +kernel
theorem dX2_glueBehind_44 : decode cX2_glueBehind 44 = .ok (.iconst 1, 1) := by decide +kernel
theorem dX2_glueBehind_45 : decode cX2_glueBehind 45 = .ok (.iadd, 1) := by decide +kernel
theorem dX2_glueBehind_46 : decode cX2_glueBehind 46 = .ok (.iastore, 1) := by decide +kernel
theorem dX2_glueBehind_47 : decode cX2_glueBehind 47 = .ok (.aload_n 0, 1) := by decide +kernel
theorem dX2_glueBehind_48 : decode cX2_glueBehind 48 = .ok (.getfield 15, 3) := by decide +kernel
theorem dX2_glueBehind_51 : decode cX2_glueBehind 51 = .ok (.istore_n 2, 1) := by decide +kernel
theorem dX2_glueBehind_52 : decode cX2_glueBehind 52 = .ok (.iload_n 2, 1) := by decide +kernel
theorem dX2_glueBehind_53 : decode cX2_glueBehind 53 = .ok (.iload_n 1, 1) := by decide +kernel
theorem dX2_glueBehind_54 : decode cX2_glueBehind 54 = .ok (.iconst 1, 1) := by decide +kernel
theorem dX2_glueBehind_55 : decode cX2_glueBehind 55 = .ok (.iadd, 1) := by decide +kernel
theorem dX2_glueBehind_56 : decode cX2_glueBehind 56 = .ok (.if_icmp .le 23, 3) := by decide +kernel
theorem dX2_glueBehind_59 : decode cX2_glueBehind 59 = .ok (.aload_n 0, 1) := by decide +kernel
theorem dX2_glueBehind_60 : decode cX2_glueBehind 60 = .ok (.getfield 11, 3) := by decide +kernel
theorem dX2_glueBehind_63 : decode cX2_glueBehind 63 = .ok (.iload_n 2, 1) := by decide +kernel
theorem dX2_glueBehind_64 : decode cX2_glueBehind 64 = .ok (.aload_n 0, 1) := by decide +kernel
theorem dX2_glueBehind_65 : decode cX2_glueBehind 65 = .ok (.getfield 11, 3) := by decide +kernel
theorem dX2_glueBehind_68 : decode cX2_glueBehind 68 = .ok (.iload_n 2, 1) := by decide +kernel
theorem dX2_glueBehind_69 : decode cX2_glueBehind 69 = .ok (.iconst 1, 1) := by decide +kernel
theorem dX2_glueBehind_70 : decode cX2_glueBehind 70 = .ok (.isub, 1) := by decide +kernel
theorem dX2_glueBehind_71 : decode cX2_glueBehind 71 = .ok (.iaload, 1) := by decide +kernel
theorem dX2_glueBehind_72 : decode cX2_glueBehind 72 = .ok (.iastore, 1) := by decide +kernel
theorem dX2_glueBehind_73 : decode cX2_glueBehind 73 = .ok (.iinc 2 (-1), 3) := by decide +kernel
theorem dX2_glueBehind_76 : decode cX2_glueBehind 76 = .ok (.goto (-24), 3) := by decide +kernel
theorem dX2_glueBehind_79 : decode cX2_glueBehind 79 = .ok (.aload_n 0, 1) := by decide +kernel
theorem dX2_glueBehind_80 : decode cX2_glueBehind 80 = .ok (.getfield 11, 3) := by decide +kernel
theorem dX2_glueBehind_83 : decode cX2_glueBehind 83 = .ok (.iload_n 1, 1) := by decide +kernel
theorem dX2_glueBehind_84 : decode cX2_glueBehind 84 = .ok (.iconst 1, 1) := by decide +kernel
theorem dX2_glueBehind_85 : decode cX2_glueBehind 85 = .ok (.iadd, 1) := by decide +kernel
theorem dX2_glueBehind_86 : decode cX2_glueBehind 86 = .ok (.iconst 1, 1) := by decide +kernel
theorem dX2_glueBehind_87 : decode cX2_glueBehind 87 = .ok (.iastore, 1) := by decide +kernel
theorem dX2_glueBehind_88 : decode cX2_glueBehind 88 = .ok (.aload_n 0, 1) := by decide +kernel
theorem dX2_glueBehind_89 : decode cX2_glueBehind 89 = .ok (.dup, 1) := by decide +kernel
theorem dX2_glueBehind_90 : decode cX2_glueBehind 90 = .ok (.getfield 15, 3) := by decide +kernel
theorem dX2_glueBehind_93 : decode cX2_glueBehind 93 = .ok (.iconst 1, 1) := by decide +kernel
theorem dX2_glueBehind_94 : decode cX2_glueBehind 94 = .ok (.iadd, 1) := by decide +kernel
theorem dX2_glueBehind_95 : decode cX2_glueBehind 95 = .ok (.putfield 15, 3) := by decide +kernel
theorem dX2_glueBehind_98 : decode cX2_glueBehind 98 = .ok (.aload_n 0, 1) := by decide +kernel
theorem dX2_glueBehind_99 : decode cX2_glueBehind 99 = .ok (.getfield 15, 3) := by decide +kernel
theorem dX2_glueBehind_102 : decode cX2_glueBehind 102 = .ok (.ireturn, 1) := by decide +kernel
theorem dX2_canLose_0 : decode cX2_canLose 0 = .ok (.aload_n 0, 1) := by decide +kernel
theorem dX2_canLose_1 : decode cX2_canLose 1 = .ok (.getfield 15, 3) := by decide +kernel
theorem dX2_canLose_4 : decode cX2_canLose 4 = .ok (.iconst 3, 1) := by decide +kernel
theorem dX2_canLose_5 : decode cX2_canLose 5 = .ok (.if_icmp .lt 38, 3) := by decide +kernel
theorem dX2_canLose_8 : decode cX2_canLose 8 = .ok (.aload_n 0, 1) := by decide +kernel
theorem dX2_canLose_9 : decode cX2_canLose 9 = .ok (.iload_n 1, 1) := by decide +kernel
theorem dX2_canLose_10 : decode cX2_canLose 10 = .ok (.invokevirtual 32, 3) := by decide +kernel
theorem dX2_canLose_13 : decode cX2_canLose 13 = .ok (.iconst 1, 1) := by decide +kernel
theorem dX2_canLose_14 : decode cX2_canLose 14 = .ok (.if_icmp .ne 29, 3) := by decide +kernel
theorem dX2_canLose_17 : decode cX2_canLose 17 = .ok (.aload_n 0, 1) := by decide +kernel
theorem dX2_canLose_18 : decode cX2_canLose 18 = .ok (.iload_n 1, 1) := by decide +kernel
theorem dX2_canLose_19 : decode cX2_canLose 19 = .ok (.iconst 1, 1) := by decide +kernel
theorem dX2_canLose_20 : decode cX2_canLose 20 = .ok (.isub, 1) := by decide +kernel
theorem dX2_canLose_21 : decode cX2_canLose 21 = .ok (.invokevirtual 32, 3) := by decide +kernel
theorem dX2_canLose_24 : decode cX2_canLose 24 = .ok (.iconst 1, 1) := by decide +kernel
theorem dX2_canLose_25 : decode cX2_canLose 25 = .ok (.if_icmp .le 18, 3) := by decide +kernel
theorem dX2_canLose_28 : decode cX2_canLose 28 = .ok (.aload_n 0, 1) := by decide +kernel
theorem dX2_canLose_29 : decode cX2_canLose 29 = .ok (.iload_n 1, 1) := by decide +kernel
theorem dX2_canLose_30 : decode cX2_canLose 30 = .ok (.iconst 1, 1) := by decide +kernel
theorem dX2_canLose_31 : decode cX2_canLose 31 = .ok (.iadd, 1) := by decide +kernel
theorem dX2_canLose_32 : decode cX2_canLose 32 = .ok (.invokevirtual 32, 3) := by decide +kernel
theorem dX2_canLose_35 : decode cX2_canLose 35 = .ok (.iconst 1, 1) := by decide +kernel
theorem dX2_canLose_36 : decode cX2_canLose 36 = .ok (.if_icmp .le 7, 3) := by decide +kernel
theorem dX2_canLose_39 : decode cX2_canLose 39 = .ok (.iconst 1, 1) := by decide +kernel
theorem dX2_canLose_40 : decode cX2_canLose 40 = .ok (.goto 4, 3) := by decide +kernel
theorem dX2_canLose_43 : decode cX2_canLose 43 = .ok (.iconst 0, 1) := by decide +kernel
theorem dX2_canLose_44 : decode cX2_canLose 44 = .ok (.ireturn, 1) := by decide +kernel
theorem dX2_lose_0 : decode cX2_lose 0 = .ok (.aload_n 0, 1) := by decide +kernel
theorem dX2_lose_1 : decode cX2_lose 1 = .ok (.iload_n 1, 1) := by decide +kernel
theorem dX2_lose_2 : decode cX2_lose 2 = .ok (.invokevirtual 48, 3) := by decide +kernel
theorem dX2_lose_5 : decode cX2_lose 5 = .ok (.ifCond .eq 11, 3) := by decide +kernel
theorem dX2_lose_8 : decode cX2_lose 8 = .ok (.aload_n 0, 1) := by decide +kernel
theorem dX2_lose_9 : decode cX2_lose 9 = .ok (.iload_n 1, 1) := by decide +kernel
theorem dX2_lose_10 : decode cX2_lose 10 = .ok (.invokevirtual 55, 3) := by decide +kernel
theorem dX2_lose_13 : decode cX2_lose 13 = .ok (.ifCond .ne 8, 3) := by decide +kernel
theorem dX2_lose_16 : decode cX2_lose 16 = .ok (.aload_n 0, 1) := by decide +kernel
theorem dX2_lose_17 : decode cX2_lose 17 = .ok (.getfield 15, 3) := by decide +kernel
theorem dX2_lose_20 : decode cX2_lose 20 = .ok (.ireturn, 1) := by decide +kernel
theorem dX2_lose_21 : decode cX2_lose 21 = .ok (.aload_n 0, 1) := by decide +kernel
theorem dX2_lose_22 : decode cX2_lose 22 = .ok (.getfield 11, 3) := by decide +kernel
theorem dX2_lose_25 : decode cX2_lose 25 = .ok (.aload_n 0, 1) := by decide +kernel
theorem dX2_lose_26 : decode cX2_lose 26 = .ok (.iload_n 1, 1) := by decide +kernel
theorem dX2_lose_27 : decode cX2_lose 27 = .ok (.iconst 1, 1) := by decide +kernel
theorem dX2_lose_28 : decode cX2_lose 28 = .ok (.isub, 1) := by decide +kernel
theorem dX2_lose_29 : decode cX2_lose 29 = .ok (.invokevirtual 25, 3) := by decide +kernel
theorem dX2_lose_32 : decode cX2_lose 32 = .ok (.dup2, 1) := by decide +kernel
theorem dX2_lose_33 : decode cX2_lose 33 = .ok (.iaload, 1) := by decide +kernel
theorem dX2_lose_34 : decode cX2_lose 34 = .ok (.iconst 1, 1) := by decide +kernel
theorem dX2_lose_35 : decode cX2_lose 35 = .ok (.isub, 1) := by decide +kernel
theorem dX2_lose_36 : decode cX2_lose 36 = .ok (.iastore, 1) := by decide +kernel
theorem dX2_lose_37 : decode cX2_lose 37 = .ok (.aload_n 0, 1) := by decide +kernel
theorem dX2_lose_38 : decode cX2_lose 38 = .ok (.getfield 11, 3) := by decide +kernel
theorem dX2_lose_41 : decode cX2_lose 41 = .ok (.aload_n 0, 1) := by decide +kernel
theorem dX2_lose_42 : decode cX2_lose 42 = .ok (.iload_n 1, 1) := by decide +kernel
theorem dX2_lose_43 : decode cX2_lose 43 = .ok (.iconst 1, 1) := by decide +kernel
theorem dX2_lose_44 : decode cX2_lose 44 = .ok (.iadd, 1) := by decide +kernel
theorem dX2_lose_45 : decode cX2_lose 45 = .ok (.invokevirtual 25, 3) := by decide +kernel
theorem dX2_lose_48 : decode cX2_lose 48 = .ok (.dup2, 1) := by decide +kernel
theorem dX2_lose_49 : decode cX2_lose 49 = .ok (.iaload, 1) := by decide +kernel
theorem dX2_lose_50 : decode cX2_lose 50 = .ok (.iconst 1, 1) := by decide +kernel
theorem dX2_lose_51 : decode cX2_lose 51 = .ok (.isub, 1) := by decide +kernel
theorem dX2_lose_52 : decode cX2_lose 52 = .ok (.iastore, 1) := by decide +kernel
theorem dX2_lose_53 : decode cX2_lose 53 = .ok (.iload_n 1, 1) := by decide +kernel
theorem dX2_lose_54 : decode cX2_lose 54 = .ok (.istore_n 2, 1) := by decide +kernel
theorem dX2_lose_55 : decode cX2_lose 55 = .ok (.iload_n 2, 1) := by decide +kernel
theorem dX2_lose_56 : decode cX2_lose 56 = .ok (.iconst 1, 1) := by decide +kernel
theorem dX2_lose_57 : decode cX2_lose 57 = .ok (.iadd, 1) := by decide +kernel
theorem dX2_lose_58 : decode cX2_lose 58 = .ok (.aload_n 0, 1) := by decide +kernel
theorem dX2_lose_59 : decode cX2_lose 59 = .ok (.getfield 15, 3) := by decide +kernel
theorem dX2_lose_62 : decode cX2_lose 62 = .ok (.if_icmp .ge 23, 3) := by decide +kernel
theorem dX2_lose_65 : decode cX2_lose 65 = .ok (.aload_n 0, 1) := by decide +kernel
theorem dX2_lose_66 : decode cX2_lose 66 = .ok (.getfield 11, 3) := by decide +kernel
theorem dX2_lose_69 : decode cX2_lose 69 = .ok (.iload_n 2, 1) := by decide +kernel
theorem dX2_lose_70 : decode cX2_lose 70 = .ok (.aload_n 0, 1) := by decide +kernel
theorem dX2_lose_71 : decode cX2_lose 71 = .ok (.getfield 11, 3) := by decide +kernel
theorem dX2_lose_74 : decode cX2_lose 74 = .ok (.iload_n 2, 1) := by decide +kernel
theorem dX2_lose_75 : decode cX2_lose 75 = .ok (.iconst 1, 1) := by decide +kernel
theorem dX2_lose_76 : decode cX2_lose 76 = .ok (.iadd, 1) := by decide +kernel
theorem dX2_lose_77 : decode cX2_lose 77 = .ok (.iaload, 1) := by decide +kernel
theorem dX2_lose_78 : decode cX2_lose 78 = .ok (.iastore, 1) := by decide +kernel
theorem dX2_lose_79 : decode cX2_lose 79 = .ok (.iinc 2 1, 3) := by decide +kernel
theorem dX2_lose_82 : decode cX2_lose 82 = .ok (.goto (-27), 3) := by decide +kernel
theorem dX2_lose_85 : decode cX2_lose 85 = .ok (.aload_n 0, 1) := by decide +kernel
theorem dX2_lose_86 : decode cX2_lose 86 = .ok (.dup, 1) := by decide +kernel
theorem dX2_lose_87 : decode cX2_lose 87 = .ok (.getfield 15, 3) := by decide +kernel
theorem dX2_lose_90 : decode cX2_lose 90 = .ok (.iconst 1, 1) := by decide +kernel
theorem dX2_lose_91 : decode cX2_lose 91 = .ok (.isub, 1) := by decide +kernel
theorem dX2_lose_92 : decode cX2_lose 92 = .ok (.putfield 15, 3) := by decide +kernel
theorem dX2_lose_95 : decode cX2_lose 95 = .ok (.aload_n 0, 1) := by decide +kernel
theorem dX2_lose_96 : decode cX2_lose 96 = .ok (.getfield 15, 3) := by decide +kernel
theorem dX2_lose_99 : decode cX2_lose 99 = .ok (.ireturn, 1) := by decide +kernel
theorem dX2_loseAll_0 : decode cX2_loseAll 0 = .ok (.iconst 0, 1) := by decide +kernel
theorem dX2_loseAll_1 : decode cX2_loseAll 1 = .ok (.istore_n 1, 1) := by decide +kernel
theorem dX2_loseAll_2 : decode cX2_loseAll 2 = .ok (.iconst 0, 1) := by decide +kernel
theorem dX2_loseAll_3 : decode cX2_loseAll 3 = .ok (.istore_n 2, 1) := by decide +kernel
theorem dX2_loseAll_4 : decode cX2_loseAll 4 = .ok (.iload_n 2, 1) := by decide +kernel
theorem dX2_loseAll_5 : decode cX2_loseAll 5 = .ok (.bipush 10, 2) := by decide +kernel
theorem dX2_loseAll_7 : decode cX2_loseAll 7 = .ok (.if_icmp .ge 39, 3) := by decide +kernel
theorem dX2_loseAll_10 : decode cX2_loseAll 10 = .ok (.aload_n 0, 1) := by decide +kernel
theorem dX2_loseAll_11 : decode cX2_loseAll 11 = .ok (.invokevirtual 58, 3) := by decide +kernel
theorem dX2_loseAll_14 : decode cX2_loseAll 14 = .ok (.istore_n 3, 1) := by decide +kernel
theorem dX2_loseAll_15 : decode cX2_loseAll 15 = .ok (.iload_n 3, 1) := by decide +kernel
theorem dX2_loseAll_16 : decode cX2_loseAll 16 = .ok (.iconst (-1), 1) := by decide +kernel
theorem dX2_loseAll_17 : decode cX2_loseAll 17 = .ok (.if_icmp .eq 29, 3) := by decide +kernel
theorem dX2_loseAll_20 : decode cX2_loseAll 20 = .ok (.aload_n 0, 1) := by decide +kernel
theorem dX2_loseAll_21 : decode cX2_loseAll 21 = .ok (.iload_n 3, 1) := by decide +kernel
theorem dX2_loseAll_22 : decode cX2_loseAll 22 = .ok (.invokevirtual 55, 3) := by decide +kernel
theorem dX2_loseAll_25 : decode cX2_loseAll 25 = .ok (.ifCond .ne 6, 3) := by decide +kernel
theorem dX2_loseAll_28 : decode cX2_loseAll 28 = .ok (.goto 18, 3) := by decide +kernel
theorem dX2_loseAll_31 : decode cX2_loseAll 31 = .ok (.aload_n 0, 1) := by decide +kernel
theorem dX2_loseAll_32 : decode cX2_loseAll 32 = .ok (.iload_n 3, 1) := by decide +kernel
theorem dX2_loseAll_33 : decode cX2_loseAll 33 = .ok (.invokevirtual 62, 3) := by decide +kernel
theorem dX2_loseAll_36 : decode cX2_loseAll 36 = .ok (.pop, 1) := by decide +kernel
theorem dX2_loseAll_37 : decode cX2_loseAll 37 = .ok (.iinc 1 1, 3) := by decide +kernel
theorem dX2_loseAll_40 : decode cX2_loseAll 40 = .ok (.iinc 2 1, 3) := by decide +kernel
theorem dX2_loseAll_43 : decode cX2_loseAll 43 = .ok (.goto (-39), 3) := by decide +kernel
theorem dX2_loseAll_46 : decode cX2_loseAll 46 = .ok (.iload_n 1, 1) := by decide +kernel
theorem dX2_loseAll_47 : decode cX2_loseAll 47 = .ok (.ireturn, 1) := by decide +kernel
theorem dX2_firstOne_0 : decode cX2_firstOne 0 = .ok (.iconst 0, 1) := by decide +kernel
theorem dX2_firstOne_1 : decode cX2_firstOne 1 = .ok (.istore_n 1, 1) := by decide +kernel
theorem dX2_firstOne_2 : decode cX2_firstOne 2 = .ok (.iload_n 1, 1) := by decide +kernel
theorem dX2_firstOne_3 : decode cX2_firstOne 3 = .ok (.aload_n 0, 1) := by decide +kernel
theorem dX2_firstOne_4 : decode cX2_firstOne 4 = .ok (.getfield 15, 3) := by decide +kernel
theorem dX2_firstOne_7 : decode cX2_firstOne 7 = .ok (.if_icmp .ge 21, 3) := by decide +kernel
theorem dX2_firstOne_10 : decode cX2_firstOne 10 = .ok (.aload_n 0, 1) := by decide +kernel
theorem dX2_firstOne_11 : decode cX2_firstOne 11 = .ok (.getfield 11, 3) := by decide +kernel
theorem dX2_firstOne_14 : decode cX2_firstOne 14 = .ok (.iload_n 1, 1) := by decide +kernel
theorem dX2_firstOne_15 : decode cX2_firstOne 15 = .ok (.iaload, 1) := by decide +kernel
theorem dX2_firstOne_16 : decode cX2_firstOne 16 = .ok (.iconst 1, 1) := by decide +kernel
theorem dX2_firstOne_17 : decode cX2_firstOne 17 = .ok (.if_icmp .ne 5, 3) := by decide +kernel
theorem dX2_firstOne_20 : decode cX2_firstOne 20 = .ok (.iload_n 1, 1) := by decide +kernel
theorem dX2_firstOne_21 : decode cX2_firstOne 21 = .ok (.ireturn, 1) := by decide +kernel
theorem dX2_firstOne_22 : decode cX2_firstOne 22 = .ok (.iinc 1 1, 3) := by decide +kernel
theorem dX2_firstOne_25 : decode cX2_firstOne 25 = .ok (.goto (-23), 3) := by decide +kernel
theorem dX2_firstOne_28 : decode cX2_firstOne 28 = .ok (.iconst (-1), 1) := by decide +kernel
theorem dX2_firstOne_29 : decode cX2_firstOne 29 = .ok (.ireturn, 1) := by decide +kernel
