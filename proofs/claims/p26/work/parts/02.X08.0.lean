theorem dX8_init_0 : decode cX8_init 0 = .ok (.aload_n 0, 1) := by decide +kernel
theorem dX8_init_1 : decode cX8_init 1 = .ok (.invokespecial 3, 3) := by decide +kernel
theorem dX8_init_4 : decode cX8_init 4 = .ok (.aload_n 0, 1) := by decide +kernel
theorem dX8_init_5 : decode cX8_init 5 = .ok (.sipush 300, 3) := by decide +kernel
theorem dX8_init_8 : decode cX8_init 8 = .ok (.newarray .byte, 2) := by decide +kernel
theorem dX8_init_10 : decode cX8_init 10 = .ok (.putfield 11, 3) := by decide +kernel
theorem dX8_init_13 : decode cX8_init 13 = .ok (.return_, 1) := by decide +kernel
theorem dX8_size_0 : decode cX8_size 0 = .ok (.aload_n 0, 1) := by decide +kernel
theorem dX8_size_1 : decode cX8_size 1 = .ok (.getfield 15, 3) := by decide +kernel
theorem dX8_size_4 : decode cX8_size 4 = .ok (.ireturn, 1) := by decide +kernel
theorem dX8_kind_0 : decode cX8_kind 0 = .ok (.aload_n 0, 1) := by decide +kernel
theorem dX8_kind_1 : decode cX8_kind 1 = .ok (.getfield 19, 3) := by decide +kernel
theorem dX8_kind_4 : decode cX8_kind 4 = .ok (.ireturn, 1) := by decide +kernel
theorem dX8_place_0 : decode cX8_place 0 = .ok (.aload_n 0, 1) := by decide +kernel
theorem dX8_place_1 : decode cX8_place 1 = .ok (.getfield 22, 3) := by decide +kernel
theorem dX8_place_4 : decode cX8_place 4 = .ok (.ireturn, 1) := by decide +kernel
theorem dX8_value_0 : decode cX8_value 0 = .ok (.aload_n 0, 1) := by decide +kernel
theorem dX8_value_1 : decode cX8_value 1 = .ok (.getfield 25, 3) := by decide +kernel
theorem dX8_value_4 : decode cX8_value 4 = .ok (.ireturn, 1) := by decide +kernel
theorem dX8_hasRoomForTwenty_0 : decode cX8_hasRoomForTwenty 0 = .ok (.aload_n 0, 1) := by decide +kernel
theorem dX8_hasRoomForTwenty_1 : decode cX8_hasRoomForTwenty 1 = .ok (.getfield 15, 3) := by decide +kernel
theorem dX8_hasRoomForTwenty_4 : decode cX8_hasRoomForTwenty 4 = .ok (.bipush 20, 2) := by decide +kernel
theorem dX8_hasRoomForTwenty_6 : decode cX8_hasRoomForTwenty 6 = .ok (.iadd, 1) := by decide +kernel
theorem dX8_hasRoomForTwenty_7 : decode cX8_hasRoomForTwenty 7 = .ok (.sipush 300, 3) := by decide +kernel
theorem dX8_hasRoomForTwenty_10 : decode cX8_hasRoomForTwenty 10 = .ok (.if_icmp .gt 7, 3) := by decide +kernel
theorem dX8_hasRoomForTwenty_13 : decode cX8_hasRoomForTwenty 13 = .ok (.iconst 1, 1) := by decide +kernel
theorem dX8_hasRoomForTwenty_14 : decode cX8_hasRoomForTwenty 14 = .ok (.goto 4, 3) := by decide +kernel
theorem dX8_hasRoomForTwenty_17 : decode cX8_hasRoomForTwenty 17 = .ok (.iconst 0, 1) := by decide +kernel
theorem dX8_hasRoomForTwenty_18 : decode cX8_hasRoomForTwenty 18 = .ok (.ireturn, 1) := by decide +kernel
theorem dX8_append_0 : decode cX8_append 0 = .ok (.bipush 24, 2) := by decide +kernel
theorem dX8_append_2 : decode cX8_append 2 = .ok (.istore_n 2, 1) := by decide +kernel
theorem dX8_append_3 : decode cX8_append 3 = .ok (.iload_n 2, 1) := by decide +kernel
theorem dX8_append_4 : decode cX8_append 4 = .ok (.ifCond .lt 42, 3) := by decide +kernel
theorem dX8_append_7 : decode cX8_append 7 = .ok (.aload_n 0, 1) := by decide +kernel
theorem dX8_append_8 : decode cX8_append 8 = .ok (.getfield 15, 3) := by decide +kernel
theorem dX8_append_11 : decode cX8_append 11 = .ok (.sipush 300, 3) := by decide +kernel
theorem dX8_append_14 : decode cX8_append 14 = .ok (.if_icmp .ge 32, 3) := by decide +kernel
theorem dX8_append_17 : decode cX8_append 17 = .ok (.aload_n 0, 1) := by decide +kernel
theorem dX8_append_18 : decode cX8_append 18 = .ok (.getfield 11, 3) := by decide +kernel
theorem dX8_append_21 : decode cX8_append 21 = .ok (.aload_n 0, 1) := by decide +kernel
theorem dX8_append_22 : decode cX8_append 22 = .ok (.getfield 15, 3) := by decide +kernel
theorem dX8_append_25 : decode cX8_append 25 = .ok (.iload_n 1, 1) := by decide +kernel
theorem dX8_append_26 : decode cX8_append 26 = .ok (.iload_n 2, 1) := by decide +kernel
theorem dX8_append_27 : decode cX8_append 27 = .ok (.ishr, 1) := by decide +kernel
theorem dX8_append_28 : decode cX8_append 28 = .ok (.i2b, 1) := by decide +kernel
theorem dX8_append_29 : decode cX8_append 29 = .ok (.bastore, 1) := by decide +kernel
theorem dX8_append_30 : decode cX8_append 30 = .ok (.aload_n 0, 1) := by decide +kernel
theorem dX8_append_31 : decode cX8_append 31 = .ok (.dup, 1) := by decide +kernel
theorem dX8_append_32 : decode cX8_append 32 = .ok (.getfield 15, 3) := by decide +kernel
theorem dX8_append_35 : decode cX8_append 35 = .ok (.iconst 1, 1) := by decide +kernel
theorem dX8_append_36 : decode cX8_append 36 = .ok (.iadd, 1) := by decide +kernel
theorem dX8_append_37 : decode cX8_append 37 = .ok (.putfield 15, 3) := by decide +kernel
theorem dX8_append_40 : decode cX8_append 40 = .ok (.iinc 2 (-8), 3) := by decide +kernel
theorem dX8_append_43 : decode cX8_append 43 = .ok (.goto (-40), 3) := by decide +kernel
theorem dX8_append_46 : decode cX8_append 46 = .ok (.return_, 1) := by decide +kernel
theorem dX8_shorten_0 : decode cX8_shorten 0 = .ok (.iload_n 1, 1) := by decide +kernel
theorem dX8_shorten_1 : decode cX8_shorten 1 = .ok (.ifCond .lt 16, 3) := by decide +kernel
theorem dX8_shorten_4 : decode cX8_shorten 4 = .ok (.iload_n 1, 1) := by decide +kernel
theorem dX8_shorten_5 : decode cX8_shorten 5 = .ok (.aload_n 0, 1) := by decide +kernel
theorem dX8_shorten_6 : decode cX8_shorten 6 = .ok (.getfield 15, 3) := by decide +kernel
theorem dX8_shorten_9 : decode cX8_shorten 9 = .ok (.if_icmp .gt 8, 3) := by decide +kernel
theorem dX8_shorten_12 : decode cX8_shorten 12 = .ok (.aload_n 0, 1) := by decide +kernel
theorem dX8_shorten_13 : decode cX8_shorten 13 = .ok (.iload_n 1, 1) := by decide +kernel
theorem dX8_shorten_14 : decode cX8_shorten 14 = .ok (.putfield 15, 3) := by decide +kernel
theorem dX8_shorten_17 : decode cX8_shorten 17 = .ok (.return_, 1) := by decide +kernel
theorem dX8_rewind_0 : decode cX8_rewind 0 = .ok (.aload_n 0, 1) := by decide +kernel
theorem dX8_rewind_1 : decode cX8_rewind 1 = .ok (.iconst 0, 1) := by decide +kernel
theorem dX8_rewind_2 : decode cX8_rewind 2 = .ok (.putfield 28, 3) := by decide +kernel
theorem dX8_rewind_5 : decode cX8_rewind 5 = .ok (.return_, 1) := by decide +kernel
theorem dX8_readToken_0 : decode cX8_readToken 0 = .ok (.aload_n 0, 1) := by decide +kernel
theorem dX8_readToken_1 : decode cX8_readToken 1 = .ok (.getfield 28, 3) := by decide +kernel
theorem dX8_readToken_4 : decode cX8_readToken 4 = .ok (.aload_n 0, 1) := by decide +kernel
theorem dX8_readToken_5 : decode cX8_readToken 5 = .ok (.getfield 15, 3) := by decide +kernel
theorem dX8_readToken_8 : decode cX8_readToken 8 = .ok (.if_icmp .ge 31, 3) := by decide +kernel
theorem dX8_readToken_11 : decode cX8_readToken 11 = .ok (.aload_n 0, 1) := by decide +kernel
theorem dX8_readToken_12 : decode cX8_readToken 12 = .ok (.getfield 11, 3) := by decide +kernel
theorem dX8_readToken_15 : decode cX8_readToken 15 = .ok (.aload_n 0, 1) := by decide +kernel
theorem dX8_readToken_16 : decode cX8_readToken 16 = .ok (.getfield 28, 3) := by decide +kernel
theorem dX8_readToken_19 : decode cX8_readToken 19 = .ok (.baload, 1) := by decide +kernel
theorem dX8_readToken_20 : decode cX8_readToken 20 = .ok (.invokestatic 31, 3) := by decide +kernel
theorem dX8_readToken_23 : decode cX8_readToken 23 = .ok (.ifCond .eq 16, 3) := by decide +kernel
theorem dX8_readToken_26 : decode cX8_readToken 26 = .ok (.aload_n 0, 1) := by decide +kernel
theorem dX8_readToken_27 : decode cX8_readToken 27 = .ok (.dup, 1) := by decide +kernel
theorem dX8_readToken_28 : decode cX8_readToken 28 = .ok (.getfield 28, 3) := by decide +kernel
theorem dX8_readToken_31 : decode cX8_readToken 31 = .ok (.iconst 1, 1) := by decide +kernel
theorem dX8_readToken_32 : decode cX8_readToken 32 = .ok (.iadd, 1) := by decide +kernel
theorem dX8_readToken_33 : decode cX8_readToken 33 = .ok (.putfield 28, 3) := by decide +kernel
theorem dX8_readToken_36 : decode cX8_readToken 36 = .ok (.goto (-36), 3) := by decide +kernel
theorem dX8_readToken_39 : decode cX8_readToken 39 = .ok (.aload_n 0, 1) := by decide +kernel
theorem dX8_readToken_40 : decode cX8_readToken 40 = .ok (.aload_n 0, 1) := by decide +kernel
theorem dX8_readToken_41 : decode cX8_readToken 41 = .ok (.getfield 28, 3) := by decide +kernel
theorem dX8_readToken_44 : decode cX8_readToken 44 = .ok (.putfield 22, 3) := by decide +kernel
theorem dX8_readToken_47 : decode cX8_readToken 47 = .ok (.aload_n 0, 1) := by decide +kernel
theorem dX8_readToken_48 : decode cX8_readToken 48 = .ok (.iconst 0, 1) := by decide +kernel
theorem dX8_readToken_49 : decode cX8_readToken 49 = .ok (.putfield 25, 3) := by decide +kernel
theorem dX8_readToken_52 : decode cX8_readToken 52 = .ok (.aload_n 0, 1) := by decide +kernel
theorem dX8_readToken_53 : decode cX8_readToken 53 = .ok (.getfield 28, 3) := by decide +kernel
theorem dX8_readToken_56 : decode cX8_readToken 56 = .ok (.aload_n 0, 1) := by decide +kernel
theorem dX8_readToken_57 : decode cX8_readToken 57 = .ok (.getfield 15, 3) := by decide +kernel
theorem dX8_readToken_60 : decode cX8_readToken 60 = .ok (.if_icmp .lt 11, 3) := by decide +kernel
theorem dX8_readToken_63 : decode cX8_readToken 63 = .ok (.aload_n 0, 1) := by decide +kernel
theorem dX8_readToken_64 : decode cX8_readToken 64 = .ok (.iconst 0, 1) := by decide +kernel
theorem dX8_readToken_65 : decode cX8_readToken 65 = .ok (.putfield 19, 3) := by decide +kernel
theorem dX8_readToken_68 : decode cX8_readToken 68 = .ok (.goto 80, 3) := by decide +kernel
theorem dX8_readToken_71 : decode cX8_readToken 71 = .ok (.aload_n 0, 1) := by decide +kernel
theorem dX8_readToken_72 : decode cX8_readToken 72 = .ok (.getfield 11, 3) := by decide +kernel
theorem dX8_readToken_75 : decode cX8_readToken 75 = .ok (.aload_n 0, 1) := by decide +kernel
theorem dX8_readToken_76 : decode cX8_readToken 76 = .ok (.getfield 28, 3) := by decide +kernel
theorem dX8_readToken_79 : decode cX8_readToken 79 = .ok (.baload, 1) := by decide +kernel
theorem dX8_readToken_80 : decode cX8_readToken 80 = .ok (.invokestatic 35, 3) := by decide +kernel
theorem dX8_readToken_83 : decode cX8_readToken 83 = .ok (.ifCond .eq 10, 3) := by decide +kernel
theorem dX8_readToken_86 : decode cX8_readToken 86 = .ok (.aload_n 0, 1) := by decide +kernel
theorem dX8_readToken_87 : decode cX8_readToken 87 = .ok (.invokevirtual 38, 3) := by decide +kernel
theorem dX8_readToken_90 : decode cX8_readToken 90 = .ok (.goto 58, 3) := by decide +kernel
theorem dX8_readToken_93 : decode cX8_readToken 93 = .ok (.aload_n 0, 1) := by decide +kernel
theorem dX8_readToken_94 : decode cX8_readToken 94 = .ok (.getfield 11, 3) := by decide +kernel
theorem dX8_readToken_97 : decode cX8_readToken 97 = .ok (.aload_n 0, 1) := by decide +kernel
theorem dX8_readToken_98 : decode cX8_readToken 98 = .ok (.getfield 28, 3) := by decide +kernel
theorem dX8_readToken_101 : decode cX8_readToken 101 = .ok (.baload, 1) := by decide +kernel
theorem dX8_readToken_102 : decode cX8_readToken 102 = .ok (.invokestatic 41, 3) := by decide +kernel
theorem dX8_readToken_105 : decode cX8_readToken 105 = .ok (.ifCond .eq 10, 3) := by decide +kernel
theorem dX8_readToken_108 : decode cX8_readToken 108 = .ok (.aload_n 0, 1) := by decide +kernel
theorem dX8_readToken_109 : decode cX8_readToken 109 = .ok (.invokevirtual 44, 3) := by decide +kernel
theorem dX8_readToken_112 : decode cX8_readToken 112 = .ok (.goto 36, 3) := by decide +kernel
theorem dX8_readToken_115 : decode cX8_readToken 115 = .ok (.aload_n 0, 1) := by decide +kernel
theorem dX8_readToken_116 : decode cX8_readToken 116 = .ok (.aload_n 0, 1) := by decide +kernel
theorem dX8_readToken_117 : decode cX8_readToken 117 = .ok (.getfield 11, 3) := by decide +kernel
theorem dX8_readToken_120 : decode cX8_readToken 120 = .ok (.aload_n 0, 1) := by decide +kernel
theorem dX8_readToken_121 : decode cX8_readToken 121 = .ok (.getfield 28, 3) := by decide +kernel
theorem dX8_readToken_124 : decode cX8_readToken 124 = .ok (.baload, 1) := by decide +kernel
theorem dX8_readToken_125 : decode cX8_readToken 125 = .ok (.bipush 59, 2) := by decide +kernel
theorem dX8_readToken_127 : decode cX8_readToken 127 = .ok (.if_icmp .ne 7, 3) := by decide +kernel
theorem dX8_readToken_130 : decode cX8_readToken 130 = .ok (.iconst 3, 1) := by decide +kernel
theorem dX8_readToken_131 : decode cX8_readToken 131 = .ok (.goto 4, 3) := by decide +kernel
theorem dX8_readToken_134 : decode cX8_readToken 134 = .ok (.iconst 4, 1) := by decide +kernel
theorem dX8_readToken_135 : decode cX8_readToken 135 = .ok (.putfield 19, 3) := by decide +kernel
theorem dX8_readToken_138 : decode cX8_readToken 138 = .ok (.aload_n 0, 1) := by decide +kernel
theorem dX8_readToken_139 : decode cX8_readToken 139 = .ok (.dup, 1) := by decide +kernel
theorem dX8_readToken_140 : decode cX8_readToken 140 = .ok (.getfield 28, 3) := by decide +kernel
theorem dX8_readToken_143 : decode cX8_readToken 143 = .ok (.iconst 1, 1) := by decide +kernel
theorem dX8_readToken_144 : decode cX8_readToken 144 = .ok (.iadd, 1) := by decide +kernel
theorem dX8_readToken_145 : decode cX8_readToken 145 = .ok (.putfield 28, 3) := by decide +kernel
theorem dX8_readToken_148 : decode cX8_readToken 148 = .ok (.return_, 1) := by decide +kernel
theorem dX8_readWord_0 : decode cX8_readWord 0 = .ok (.aload_n 0, 1) := by decide +kernel
theorem dX8_readWord_1 : decode cX8_readWord 1 = .ok (.getfield 28, 3) := by decide +kernel
theorem dX8_readWord_4 : decode cX8_readWord 4 = .ok (.aload_n 0, 1) := by decide +kernel
theorem dX8_readWord_5 : decode cX8_readWord 5 = .ok (.getfield 15, 3) := by decide +kernel
theorem dX8_readWord_8 : decode cX8_readWord 8 = .ok (.if_icmp .ge 31, 3) := by decide +kernel
theorem dX8_readWord_11 : decode cX8_readWord 11 = .ok (.aload_n 0, 1) := by decide +kernel
theorem dX8_readWord_12 : decode cX8_readWord 12 = .ok (.getfield 11, 3) := by decide +kernel
theorem dX8_readWord_15 : decode cX8_readWord 15 = .ok (.aload_n 0, 1) := by decide +kernel
theorem dX8_readWord_16 : decode cX8_readWord 16 = .ok (.getfield 28, 3) := by decide +kernel
theorem dX8_readWord_19 : decode cX8_readWord 19 = .ok (.baload, 1) := by decide +kernel
theorem dX8_readWord_20 : decode cX8_readWord 20 = .ok (.invokestatic 35, 3) := by decide +kernel
theorem dX8_readWord_23 : decode cX8_readWord 23 = .ok (.ifCond .eq 16, 3) := by decide +kernel
theorem dX8_readWord_26 : decode cX8_readWord 26 = .ok (.aload_n 0, 1) := by decide +kernel
theorem dX8_readWord_27 : decode cX8_readWord 27 = .ok (.dup, 1) := by decide +kernel
theorem dX8_readWord_28 : decode cX8_readWord 28 = .ok (.getfield 28, 3) := by decide +kernel
theorem dX8_readWord_31 : decode cX8_readWord 31 = .ok (.iconst 1, 1) := by decide +kernel
theorem dX8_readWord_32 : decode cX8_readWord 32 = .ok (.iadd, 1) := by decide +kernel
theorem dX8_readWord_33 : decode cX8_readWord 33 = .ok (.putfield 28, 3) := by decide +kernel
theorem dX8_readWord_36 : decode cX8_readWord 36 = .ok (.goto (-36), 3) := by decide +kernel
theorem dX8_readWord_39 : decode cX8_readWord 39 = .ok (.aload_n 0, 1) := by decide +kernel
theorem dX8_readWord_40 : decode cX8_readWord 40 = .ok (.aload_n 0, 1) := by decide +kernel
theorem dX8_readWord_41 : decode cX8_readWord 41 = .ok (.getfield 28, 3) := by decide +kernel
theorem dX8_readWord_44 : decode cX8_readWord 44 = .ok (.aload_n 0, 1) := by decide +kernel
theorem dX8_readWord_45 : decode cX8_readWord 45 = .ok (.getfield 22, 3) := by decide +kernel
theorem dX8_readWord_48 : decode cX8_readWord 48 = .ok (.isub, 1) := by decide +kernel
theorem dX8_readWord_49 : decode cX8_readWord 49 = .ok (.bipush 8, 2) := by decide +kernel
theorem dX8_readWord_51 : decode cX8_readWord 51 = .ok (.if_icmp .gt 7, 3) := by decide +kernel
theorem dX8_readWord_54 : decode cX8_readWord 54 = .ok (.iconst 1, 1) := by decide +kernel
theorem dX8_readWord_55 : decode cX8_readWord 55 = .ok (.goto 4, 3) := by decide +kernel
theorem dX8_readWord_58 : decode cX8_readWord 58 = .ok (.iconst 4, 1) := by decide +kernel
theorem dX8_readWord_59 : decode cX8_readWord 59 = .ok (.putfield 19, 3) := by decide +kernel
theorem dX8_readWord_62 : decode cX8_readWord 62 = .ok (.return_, 1) := by decide +kernel
theorem dX8_readNumber_0 : decode cX8_readNumber 0 = .ok (.aload_n 0, 1) := by decide +kernel
theorem dX8_readNumber_1 : decode cX8_readNumber 1 = .ok (.getfield 28, 3) := by decide +kernel
theorem dX8_readNumber_4 : decode cX8_readNumber 4 = .ok (.aload_n 0, 1) := by decide +kernel
theorem dX8_readNumber_5 : decode cX8_readNumber 5 = .ok (.getfield 15, 3) := by decide +kernel
theorem dX8_readNumber_8 : decode cX8_readNumber 8 = .ok (.if_icmp .ge 55, 3) := by decide +kernel
theorem dX8_readNumber_11 : decode cX8_readNumber 11 = .ok (.aload_n 0, 1) := by decide +kernel
theorem dX8_readNumber_12 : decode cX8_readNumber 12 = .ok (.getfield 11, 3) := by decide +kernel
theorem dX8_readNumber_15 : decode cX8_readNumber 15 = .ok (.aload_n 0, 1) := by decide +kernel
theorem dX8_readNumber_16 : decode cX8_readNumber 16 = .ok (.getfield 28, 3) := by decide +kernel
theorem dX8_readNumber_19 : decode cX8_readNumber 19 = .ok (.baload, 1) := by decide +kernel
theorem dX8_readNumber_20 : decode cX8_readNumber 20 = .ok (.invokestatic 41, 3) := by decide +kernel
theorem dX8_readNumber_23 : decode cX8_readNumber 23 = .ok (.ifCond .eq 40, 3) := by decide +kernel
theorem dX8_readNumber_26 : decode cX8_readNumber 26 = .ok (.aload_n 0, 1) := by decide +kernel
theorem dX8_readNumber_27 : decode cX8_readNumber 27 = .ok (.aload_n 0, 1) := by decide +kernel
theorem dX8_readNumber_28 : decode cX8_readNumber 28 = .ok (.getfield 25, 3) := by decide +kernel
theorem dX8_readNumber_31 : decode cX8_readNumber 31 = .ok (.bipush 10, 2) := by decide +kernel
theorem dX8_readNumber_33 : decode cX8_readNumber 33 = .ok (.imul, 1) := by decide +kernel
theorem dX8_readNumber_34 : decode cX8_readNumber 34 = .ok (.aload_n 0, 1) := by decide +kernel
theorem dX8_readNumber_35 : decode cX8_readNumber 35 = .ok (.getfield 11, 3) := by decide +kernel
theorem dX8_readNumber_38 : decode cX8_readNumber 38 = .ok (.aload_n 0, 1) := by decide +kernel
theorem dX8_readNumber_39 : decode cX8_readNumber 39 = .ok (.getfield 28, 3) := by decide +kernel
theorem dX8_readNumber_42 : decode cX8_readNumber 42 = .ok (.baload, 1) := by decide +kernel
theorem dX8_readNumber_43 : decode cX8_readNumber 43 = .ok (.iadd, 1) := by decide +kernel
theorem dX8_readNumber_44 : decode cX8_readNumber 44 = .ok (.bipush 48, 2) := by decide +kernel
theorem dX8_readNumber_46 : decode cX8_readNumber 46 = .ok (.isub, 1) := by decide +kernel
theorem dX8_readNumber_47 : decode cX8_readNumber 47 = .ok (.putfield 25, 3) := by decide +kernel
theorem dX8_readNumber_50 : decode cX8_readNumber 50 = .ok (.aload_n 0, 1) := by decide +kernel
theorem dX8_readNumber_51 : decode cX8_readNumber 51 = .ok (.dup, 1) := by decide +kernel
theorem dX8_readNumber_52 : decode cX8_readNumber 52 = .ok (.getfield 28, 3) := by decide +kernel
theorem dX8_readNumber_55 : decode cX8_readNumber 55 = .ok (.iconst 1, 1) := by decide +kernel
theorem dX8_readNumber_56 : decode cX8_readNumber 56 = .ok (.iadd, 1) := by decide +kernel
theorem dX8_readNumber_57 : decode cX8_readNumber 57 = .ok (.putfield 28, 3) := by decide +kernel
theorem dX8_readNumber_60 : decode cX8_readNumber 60 = .ok (.goto (-60), 3) := by decide +kernel
theorem dX8_readNumber_63 : decode cX8_readNumber 63 = .ok (.aload_n 0, 1) := by decide +kernel
theorem dX8_readNumber_64 : decode cX8_readNumber 64 = .ok (.aload_n 0, 1) := by decide +kernel
theorem dX8_readNumber_65 : decode cX8_readNumber 65 = .ok (.getfield 28, 3) := by decide +kernel
theorem dX8_readNumber_68 : decode cX8_readNumber 68 = .ok (.aload_n 0, 1) := by decide +kernel
theorem dX8_readNumber_69 : decode cX8_readNumber 69 = .ok (.getfield 22, 3) := by decide +kernel
theorem dX8_readNumber_72 : decode cX8_readNumber 72 = .ok (.isub, 1) := by decide +kernel
theorem dX8_readNumber_73 : decode cX8_readNumber 73 = .ok (.iconst 3, 1) := by decide +kernel
theorem dX8_readNumber_74 : decode cX8_readNumber 74 = .ok (.if_icmp .gt 7, 3) := by decide +kernel
theorem dX8_readNumber_77 : decode cX8_readNumber 77 = .ok (.iconst 2, 1) := by decide +kernel
theorem dX8_readNumber_78 : decode cX8_readNumber 78 = .ok (.goto 4, 3) := by decide +kernel
theorem dX8_readNumber_81 : decode cX8_readNumber 81 = .ok (.iconst 4, 1) := by decide +kernel
theorem dX8_readNumber_82 : decode cX8_readNumber 82 = .ok (.putfield 19, 3) := by decide +kernel
theorem dX8_readNumber_85 : decode cX8_readNumber 85 = .ok (.return_, 1) := by decide +kernel
theorem dX8_isWord_0 : decode cX8_isWord 0 = .ok (.aload_n 0, 1) := by decide +kernel
theorem dX8_isWord_1 : decode cX8_isWord 1 = .ok (.getfield 19, 3) := by decide +kernel
theorem dX8_isWord_4 : decode cX8_isWord 4 = .ok (.iconst 1, 1) := by decide +kernel
theorem dX8_isWord_5 : decode cX8_isWord 5 = .ok (.if_icmp .ne 19, 3) := by decide +kernel
theorem dX8_isWord_8 : decode cX8_isWord 8 = .ok (.aload_n 0, 1) := by decide +kernel
theorem dX8_isWord_9 : decode cX8_isWord 9 = .ok (.getfield 28, 3) := by decide +kernel
theorem dX8_isWord_12 : decode cX8_isWord 12 = .ok (.aload_n 0, 1) := by decide +kernel
theorem dX8_isWord_13 : decode cX8_isWord 13 = .ok (.getfield 22, 3) := by decide +kernel
theorem dX8_isWord_16 : decode cX8_isWord 16 = .ok (.isub, 1) := by decide +kernel
theorem dX8_isWord_17 : decode cX8_isWord 17 = .ok (.aload_n 1, 1) := by decide +kernel
theorem dX8_isWord_18 : decode cX8_isWord 18 = .ok (.invokevirtual 47, 3) := by decide +kernel
theorem dX8_isWord_21 : decode cX8_isWord 21 = .ok (.if_icmp .eq 5, 3) := by decide +kernel
theorem dX8_isWord_24 : decode cX8_isWord 24 = .ok (.iconst 0, 1) := by decide +kernel
theorem dX8_isWord_25 : decode cX8_isWord 25 = .ok (.ireturn, 1) := by decide +kernel
theorem dX8_isWord_26 : decode cX8_isWord 26 = .ok (.iconst 0, 1) := by decide +kernel
theorem dX8_isWord_27 : decode cX8_isWord 27 = .ok (.istore_n 2, 1) := by decide +kernel
theorem dX8_isWord_28 : decode cX8_isWord 28 = .ok (.iload_n 2, 1) := by decide +kernel
theorem dX8_isWord_29 : decode cX8_isWord 29 = .ok (.aload_n 1, 1) := by decide +kernel
theorem dX8_isWord_30 : decode cX8_isWord 30 = .ok (.invokevirtual 47, 3) := by decide +kernel
theorem dX8_isWord_33 : decode cX8_isWord 33 = .ok (.if_icmp .ge 43, 3) := by decide +kernel
theorem dX8_isWord_36 : decode cX8_isWord 36 = .ok (.aload_n 0, 1) := by decide +kernel
theorem dX8_isWord_37 : decode cX8_isWord 37 = .ok (.getfield 22, 3) := by decide +kernel
theorem dX8_isWord_40 : decode cX8_isWord 40 = .ok (.iload_n 2, 1) := by decide +kernel
theorem dX8_isWord_41 : decode cX8_isWord 41 = .ok (.iadd, 1) := by decide +kernel
theorem dX8_isWord_42 : decode cX8_isWord 42 = .ok (.aload_n 0, 1) := by decide +kernel
theorem dX8_isWord_43 : decode cX8_isWord 43 = .ok (.getfield 15, 3) := by decide +kernel
theorem dX8_isWord_46 : decode cX8_isWord 46 = .ok (.if_icmp .ge 30, 3) := by decide +kernel
theorem dX8_isWord_49 : decode cX8_isWord 49 = .ok (.aload_n 0, 1) := by decide +kernel
theorem dX8_isWord_50 : decode cX8_isWord 50 = .ok (.getfield 11, 3) := by decide +kernel
theorem dX8_isWord_53 : decode cX8_isWord 53 = .ok (.aload_n 0, 1) := by decide +kernel
theorem dX8_isWord_54 : decode cX8_isWord 54 = .ok (.getfield 22, 3) := by decide +kernel
theorem dX8_isWord_57 : decode cX8_isWord 57 = .ok (.iload_n 2, 1) := by decide +kernel
theorem dX8_isWord_58 : decode cX8_isWord 58 = .ok (.iadd, 1) := by decide +kernel
theorem dX8_isWord_59 : decode cX8_isWord 59 = .ok (.baload, 1) := by decide +kernel
theorem dX8_isWord_60 : decode cX8_isWord 60 = .ok (.aload_n 1, 1) := by decide +kernel
theorem dX8_isWord_61 : decode cX8_isWord 61 = .ok (.iload_n 2, 1) := by decide +kernel
theorem dX8_isWord_62 : decode cX8_isWord 62 = .ok (.invokevirtual 52, 3) := by decide +kernel
theorem dX8_isWord_65 : decode cX8_isWord 65 = .ok (.if_icmp .eq 5, 3) := by decide +kernel
theorem dX8_isWord_68 : decode cX8_isWord 68 = .ok (.iconst 0, 1) := by decide +kernel
theorem dX8_isWord_69 : decode cX8_isWord 69 = .ok (.ireturn, 1) := by decide +kernel
theorem dX8_isWord_70 : decode cX8_isWord 70 = .ok (.iinc 2 1, 3) := by decide +kernel
theorem dX8_isWord_73 : decode cX8_isWord 73 = .ok (.goto (-45), 3) := by decide +kernel
theorem dX8_isWord_76 : decode cX8_isWord 76 = .ok (.iconst 1, 1) := by decide +kernel
theorem dX8_isWord_77 : decode cX8_isWord 77 = .ok (.ireturn, 1) := by decide +kernel
theorem dX8_readNumbers_0 : decode cX8_readNumbers 0 = .ok (.aload_n 0, 1) := by decide +kernel
theorem dX8_readNumbers_1 : decode cX8_readNumbers 1 = .ok (.invokevirtual 56, 3) := by decide +kernel
theorem dX8_readNumbers_4 : decode cX8_readNumbers 4 = .ok (.iconst 0, 1) := by decide +kernel
theorem dX8_readNumbers_5 : decode cX8_readNumbers 5 = .ok (.istore_n 2, 1) := by decide +kernel
theorem dX8_readNumbers_6 : decode cX8_readNumbers 6 = .ok (.iload_n 2, 1) := by decide +kernel
theorem dX8_readNumbers_7 : decode cX8_readNumbers 7 = .ok (.aload_n 1, 1) := by decide +kernel
theorem dX8_readNumbers_8 : decode cX8_readNumbers 8 = .ok (.arraylength, 1) := by decide +kernel
theorem dX8_readNumbers_9 : decode cX8_readNumbers 9 = .ok (.if_icmp .gt 45, 3) := by decide +kernel
theorem dX8_readNumbers_12 : decode cX8_readNumbers 12 = .ok (.aload_n 0, 1) := by decide +kernel
theorem dX8_readNumbers_13 : decode cX8_readNumbers 13 = .ok (.invokevirtual 59, 3) := by decide +kernel
theorem dX8_readNumbers_16 : decode cX8_readNumbers 16 = .ok (.aload_n 0, 1) := by decide +kernel
theorem dX8_readNumbers_17 : decode cX8_readNumbers 17 = .ok (.getfield 19, 3) := by decide +kernel
theorem dX8_readNumbers_20 : decode cX8_readNumbers 20 = .ok (.ifCond .ne 5, 3) := by decide +kernel
theorem dX8_readNumbers_23 : decode cX8_readNumbers 23 = .ok (.iload_n 2, 1) := by decide +kernel
theorem dX8_readNumbers_24 : decode cX8_readNumbers 24 = .ok (.ireturn, 1) := by decide +kernel
theorem dX8_readNumbers_25 : decode cX8_readNumbers 25 = .ok (.aload_n 0, 1) := by decide +kernel
theorem dX8_readNumbers_26 : decode cX8_readNumbers 26 = .ok (.getfield 19, 3) := by decide +kernel
theorem dX8_readNumbers_29 : decode cX8_readNumbers 29 = .ok (.iconst 2, 1) := by decide +kernel
theorem dX8_readNumbers_30 : decode cX8_readNumbers 30 = .ok (.if_icmp .ne 9, 3) := by decide +kernel
theorem dX8_readNumbers_33 : decode cX8_readNumbers 33 = .ok (.iload_n 2, 1) := by decide +kernel
theorem dX8_readNumbers_34 : decode cX8_readNumbers 34 = .ok (.aload_n 1, 1) := by decide +kernel
theorem dX8_readNumbers_35 : decode cX8_readNumbers 35 = .ok (.arraylength, 1) := by decide +kernel
theorem dX8_readNumbers_36 : decode cX8_readNumbers 36 = .ok (.if_icmp .ne 5, 3) := by decide +kernel
theorem dX8_readNumbers_39 : decode cX8_readNumbers 39 = .ok (.iconst (-1), 1) := by decide +kernel
theorem dX8_readNumbers_40 : decode cX8_readNumbers 40 = .ok (.ireturn, 1) := by decide +kernel
theorem dX8_readNumbers_41 : decode cX8_readNumbers 41 = .ok (.aload_n 1, 1) := by decide +kernel
theorem dX8_readNumbers_42 : decode cX8_readNumbers 42 = .ok (.iload_n 2, 1) := by decide +kernel
theorem dX8_readNumbers_43 : decode cX8_readNumbers 43 = .ok (.aload_n 0, 1) := by decide +kernel
theorem dX8_readNumbers_44 : decode cX8_readNumbers 44 = .ok (.getfield 25, 3) := by decide +kernel
theorem dX8_readNumbers_47 : decode cX8_readNumbers 47 = .ok (.iastore, 1) := by decide +kernel
theorem dX8_readNumbers_48 : decode cX8_readNumbers 48 = .ok (.iinc 2 1, 3) := by decide +kernel
theorem dX8_readNumbers_51 : decode cX8_readNumbers 51 = .ok (.goto (-45), 3) := by decide +kernel
theorem dX8_readNumbers_54 : decode cX8_readNumbers 54 = .ok (.iconst (-1), 1) := by decide +kernel
theorem dX8_readNumbers_55 : decode cX8_readNumbers 55 = .ok (.ireturn, 1) := by decide +kernel
theorem dX8_isBlank_0 : decode cX8_isBlank 0 = .ok (.iload_n 0, 1) := by decide +kernel
theorem dX8_isBlank_1 : decode cX8_isBlank 1 = .ok (.bipush 32, 2) := by decide +kernel
theorem dX8_isBlank_3 : decode cX8_isBlank 3 = .ok (.if_icmp .eq 9, 3) := by decide +kernel
theorem dX8_isBlank_6 : decode cX8_isBlank 6 = .ok (.iload_n 0, 1) := by decide +kernel
theorem dX8_isBlank_7 : decode cX8_isBlank 7 = .ok (.bipush 10, 2) := by decide +kernel
theorem dX8_isBlank_9 : decode cX8_isBlank 9 = .ok (.if_icmp .ne 7, 3) := by decide +kernel
theorem dX8_isBlank_12 : decode cX8_isBlank 12 = .ok (.iconst 1, 1) := by decide +kernel
theorem dX8_isBlank_13 : decode cX8_isBlank 13 = .ok (.goto 4, 3) := by decide +kernel
theorem dX8_isBlank_16 : decode cX8_isBlank 16 = .ok (.iconst 0, 1) := by decide +kernel
theorem dX8_isBlank_17 : decode cX8_isBlank 17 = .ok (.ireturn, 1) := by decide +kernel
theorem dX8_isLetter_0 : decode cX8_isLetter 0 = .ok (.iload_n 0, 1) := by decide +kernel
theorem dX8_isLetter_1 : decode cX8_isLetter 1 = .ok (.bipush 97, 2) := by decide +kernel
theorem dX8_isLetter_3 : decode cX8_isLetter 3 = .ok (.if_icmp .lt 13, 3) := by decide +kernel
theorem dX8_isLetter_6 : decode cX8_isLetter 6 = .ok (.iload_n 0, 1) := by decide +kernel
theorem dX8_isLetter_7 : decode cX8_isLetter 7 = .ok (.bipush 122, 2) := by decide +kernel
theorem dX8_isLetter_9 : decode cX8_isLetter 9 = .ok (.if_icmp .gt 7, 3) := by decide +kernel
theorem dX8_isLetter_12 : decode cX8_isLetter 12 = .ok (.iconst 1, 1) := by decide +kernel
theorem dX8_isLetter_13 : decode cX8_isLetter 13 = .ok (.goto 4, 3) := by decide +kernel
theorem dX8_isLetter_16 : decode cX8_isLetter 16 = .ok (.iconst 0, 1) := by decide +kernel
theorem dX8_isLetter_17 : decode cX8_isLetter 17 = .ok (.ireturn, 1) := by decide +kernel
theorem dX8_isDigit_0 : decode cX8_isDigit 0 = .ok (.iload_n 0, 1) := by decide +kernel
theorem dX8_isDigit_1 : decode cX8_isDigit 1 = .ok (.bipush 48, 2) := by decide +kernel
theorem dX8_isDigit_3 : decode cX8_isDigit 3 = .ok (.if_icmp .lt 13, 3) := by decide +kernel
theorem dX8_isDigit_6 : decode cX8_isDigit 6 = .ok (.iload_n 0, 1) := by decide +kernel
theorem dX8_isDigit_7 : decode cX8_isDigit 7 = .ok (.bipush 57, 2) := by decide +kernel
theorem dX8_isDigit_9 : decode cX8_isDigit 9 = .ok (.if_icmp .gt 7, 3) := by decide +kernel
theorem dX8_isDigit_12 : decode cX8_isDigit 12 = .ok (.iconst 1, 1) := by decide +kernel
theorem dX8_isDigit_13 : decode cX8_isDigit 13 = .ok (.goto 4, 3) := by decide +kernel
theorem dX8_isDigit_16 : decode cX8_isDigit 16 = .ok (.iconst 0, 1) := by decide +kernel
theorem dX8_isDigit_17 : decode cX8_isDigit 17 = .ok (.ireturn, 1) := by decide +kernel
