theorem dX11_init_0 : decode cX11_init 0 = .ok (.aload_n 0, 1) := by decide +kernel
theorem dX11_init_1 : decode cX11_init 1 = .ok (.invokespecial 1, 3) := by decide +kernel
theorem dX11_init_4 : decode cX11_init 4 = .ok (.aload_n 0, 1) := by decide +kernel
theorem dX11_init_5 : decode cX11_init 5 = .ok (.sipush 300, 3) := by decide +kernel
theorem dX11_init_8 : decode cX11_init 8 = .ok (.newarray .byte, 2) := by decide +kernel
theorem dX11_init_10 : decode cX11_init 10 = .ok (.putfield 7, 3) := by decide +kernel
theorem dX11_init_13 : decode cX11_init 13 = .ok (.aload_n 0, 1) := by decide +kernel
theorem dX11_init_14 : decode cX11_init 14 = .ok (.iconst (-1), 1) := by decide +kernel
theorem dX11_init_15 : decode cX11_init 15 = .ok (.putfield 13, 3) := by decide +kernel
theorem dX11_init_18 : decode cX11_init 18 = .ok (.aload_n 0, 1) := by decide +kernel
theorem dX11_init_19 : decode cX11_init 19 = .ok (.bipush 100, 2) := by decide +kernel
theorem dX11_init_21 : decode cX11_init 21 = .ok (.newarray .int, 2) := by decide +kernel
theorem dX11_init_23 : decode cX11_init 23 = .ok (.putfield 17, 3) := by decide +kernel
theorem dX11_init_26 : decode cX11_init 26 = .ok (.aload_n 0, 1) := by decide +kernel
theorem dX11_init_27 : decode cX11_init 27 = .ok (.bipush 35, 2) := by decide +kernel
theorem dX11_init_29 : decode cX11_init 29 = .ok (.newarray .int, 2) := by decide +kernel
theorem dX11_init_31 : decode cX11_init 31 = .ok (.putfield 21, 3) := by decide +kernel
theorem dX11_init_34 : decode cX11_init 34 = .ok (.aload_n 0, 1) := by decide +kernel
theorem dX11_init_35 : decode cX11_init 35 = .ok (.bipush 35, 2) := by decide +kernel
theorem dX11_init_37 : decode cX11_init 37 = .ok (.newarray .int, 2) := by decide +kernel
theorem dX11_init_39 : decode cX11_init 39 = .ok (.putfield 24, 3) := by decide +kernel
theorem dX11_init_42 : decode cX11_init 42 = .ok (.aload_n 0, 1) := by decide +kernel
theorem dX11_init_43 : decode cX11_init 43 = .ok (.sipush 429, 3) := by decide +kernel
theorem dX11_init_46 : decode cX11_init 46 = .ok (.newarray .long, 2) := by decide +kernel
theorem dX11_init_48 : decode cX11_init 48 = .ok (.putfield 27, 3) := by decide +kernel
theorem dX11_init_51 : decode cX11_init 51 = .ok (.aload_n 0, 1) := by decide +kernel
theorem dX11_init_52 : decode cX11_init 52 = .ok (.bipush 8, 2) := by decide +kernel
theorem dX11_init_54 : decode cX11_init 54 = .ok (.newarray .int, 2) := by decide +kernel
theorem dX11_init_56 : decode cX11_init 56 = .ok (.putfield 31, 3) := by decide +kernel
theorem dX11_init_59 : decode cX11_init 59 = .ok (.aload_n 0, 1) := by decide +kernel
theorem dX11_init_60 : decode cX11_init 60 = .ok (.bipush 8, 2) := by decide +kernel
theorem dX11_init_62 : decode cX11_init 62 = .ok (.newarray .int, 2) := by decide +kernel
theorem dX11_init_64 : decode cX11_init 64 = .ok (.putfield 34, 3) := by decide +kernel
theorem dX11_init_67 : decode cX11_init 67 = .ok (.aload_n 0, 1) := by decide +kernel
theorem dX11_init_68 : decode cX11_init 68 = .ok (.bipush 8, 2) := by decide +kernel
theorem dX11_init_70 : decode cX11_init 70 = .ok (.newarray .int, 2) := by decide +kernel
theorem dX11_init_72 : decode cX11_init 72 = .ok (.putfield 37, 3) := by decide +kernel
theorem dX11_init_75 : decode cX11_init 75 = .ok (.aload_n 0, 1) := by decide +kernel
theorem dX11_init_76 : decode cX11_init 76 = .ok (.bipush 10, 2) := by decide +kernel
theorem dX11_init_78 : decode cX11_init 78 = .ok (.newarray .int, 2) := by decide +kernel
theorem dX11_init_80 : decode cX11_init 80 = .ok (.putfield 40, 3) := by decide +kernel
theorem dX11_init_83 : decode cX11_init 83 = .ok (.aload_n 0, 1) := by decide +kernel
theorem dX11_init_84 : decode cX11_init 84 = .ok (.bipush 10, 2) := by decide +kernel
theorem dX11_init_86 : decode cX11_init 86 = .ok (.newarray .int, 2) := by decide +kernel
theorem dX11_init_88 : decode cX11_init 88 = .ok (.putfield 43, 3) := by decide +kernel
theorem dX11_init_91 : decode cX11_init 91 = .ok (.aload_n 0, 1) := by decide +kernel
theorem dX11_init_92 : decode cX11_init 92 = .ok (.sipush 429, 3) := by decide +kernel
theorem dX11_init_95 : decode cX11_init 95 = .ok (.newarray .int, 2) := by decide +kernel
theorem dX11_init_97 : decode cX11_init 97 = .ok (.putfield 46, 3) := by decide +kernel
theorem dX11_init_100 : decode cX11_init 100 = .ok (.aload_n 0, 1) := by decide +kernel
theorem dX11_init_101 : decode cX11_init 101 = .ok (.sipush 429, 3) := by decide +kernel
theorem dX11_init_104 : decode cX11_init 104 = .ok (.newarray .int, 2) := by decide +kernel
theorem dX11_init_106 : decode cX11_init 106 = .ok (.putfield 49, 3) := by decide +kernel
theorem dX11_init_109 : decode cX11_init 109 = .ok (.aload_n 0, 1) := by decide +kernel
theorem dX11_init_110 : decode cX11_init 110 = .ok (.bipush 64, 2) := by decide +kernel
theorem dX11_init_112 : decode cX11_init 112 = .ok (.newarray .int, 2) := by decide +kernel
theorem dX11_init_114 : decode cX11_init 114 = .ok (.putfield 52, 3) := by decide +kernel
theorem dX11_init_117 : decode cX11_init 117 = .ok (.aload_n 0, 1) := by decide +kernel
theorem dX11_init_118 : decode cX11_init 118 = .ok (.bipush 10, 2) := by decide +kernel
theorem dX11_init_120 : decode cX11_init 120 = .ok (.newarray .int, 2) := by decide +kernel
theorem dX11_init_122 : decode cX11_init 122 = .ok (.putfield 55, 3) := by decide +kernel
theorem dX11_init_125 : decode cX11_init 125 = .ok (.aload_n 0, 1) := by decide +kernel
theorem dX11_init_126 : decode cX11_init 126 = .ok (.iconst (-1), 1) := by decide +kernel
theorem dX11_init_127 : decode cX11_init 127 = .ok (.putfield 58, 3) := by decide +kernel
theorem dX11_init_130 : decode cX11_init 130 = .ok (.aload_n 0, 1) := by decide +kernel
theorem dX11_init_131 : decode cX11_init 131 = .ok (.bipush 7, 2) := by decide +kernel
theorem dX11_init_133 : decode cX11_init 133 = .ok (.newarray .int, 2) := by decide +kernel
theorem dX11_init_135 : decode cX11_init 135 = .ok (.putfield 61, 3) := by decide +kernel
theorem dX11_init_138 : decode cX11_init 138 = .ok (.aload_n 0, 1) := by decide +kernel
theorem dX11_init_139 : decode cX11_init 139 = .ok (.bipush 7, 2) := by decide +kernel
theorem dX11_init_141 : decode cX11_init 141 = .ok (.newarray .int, 2) := by decide +kernel
theorem dX11_init_143 : decode cX11_init 143 = .ok (.putfield 64, 3) := by decide +kernel
theorem dX11_init_146 : decode cX11_init 146 = .ok (.aload_n 0, 1) := by decide +kernel
theorem dX11_init_147 : decode cX11_init 147 = .ok (.bipush 11, 2) := by decide +kernel
theorem dX11_init_149 : decode cX11_init 149 = .ok (.newarray .int, 2) := by decide +kernel
theorem dX11_init_151 : decode cX11_init 151 = .ok (.putfield 67, 3) := by decide +kernel
theorem dX11_init_154 : decode cX11_init 154 = .ok (.aload_n 0, 1) := by decide +kernel
theorem dX11_init_155 : decode cX11_init 155 = .ok (.bipush 20, 2) := by decide +kernel
theorem dX11_init_157 : decode cX11_init 157 = .ok (.newarray .int, 2) := by decide +kernel
theorem dX11_init_159 : decode cX11_init 159 = .ok (.putfield 70, 3) := by decide +kernel
theorem dX11_init_162 : decode cX11_init 162 = .ok (.aload_n 0, 1) := by decide +kernel
theorem dX11_init_163 : decode cX11_init 163 = .ok (.bipush 20, 2) := by decide +kernel
theorem dX11_init_165 : decode cX11_init 165 = .ok (.newarray .int, 2) := by decide +kernel
theorem dX11_init_167 : decode cX11_init 167 = .ok (.putfield 73, 3) := by decide +kernel
theorem dX11_init_170 : decode cX11_init 170 = .ok (.aload_n 0, 1) := by decide +kernel
theorem dX11_init_171 : decode cX11_init 171 = .ok (.bipush 20, 2) := by decide +kernel
theorem dX11_init_173 : decode cX11_init 173 = .ok (.newarray .int, 2) := by decide +kernel
theorem dX11_init_175 : decode cX11_init 175 = .ok (.putfield 76, 3) := by decide +kernel
theorem dX11_init_178 : decode cX11_init 178 = .ok (.aload_n 0, 1) := by decide +kernel
theorem dX11_init_179 : decode cX11_init 179 = .ok (.bipush 20, 2) := by decide +kernel
theorem dX11_init_181 : decode cX11_init 181 = .ok (.newarray .int, 2) := by decide +kernel
theorem dX11_init_183 : decode cX11_init 183 = .ok (.putfield 79, 3) := by decide +kernel
theorem dX11_init_186 : decode cX11_init 186 = .ok (.aload_n 0, 1) := by decide +kernel
theorem dX11_init_187 : decode cX11_init 187 = .ok (.bipush 20, 2) := by decide +kernel
theorem dX11_init_189 : decode cX11_init 189 = .ok (.newarray .int, 2) := by decide +kernel
theorem dX11_init_191 : decode cX11_init 191 = .ok (.putfield 82, 3) := by decide +kernel
theorem dX11_init_194 : decode cX11_init 194 = .ok (.aload_n 0, 1) := by decide +kernel
theorem dX11_init_195 : decode cX11_init 195 = .ok (.bipush 20, 2) := by decide +kernel
theorem dX11_init_197 : decode cX11_init 197 = .ok (.newarray .int, 2) := by decide +kernel
theorem dX11_init_199 : decode cX11_init 199 = .ok (.putfield 85, 3) := by decide +kernel
theorem dX11_init_202 : decode cX11_init 202 = .ok (.aload_n 0, 1) := by decide +kernel
theorem dX11_init_203 : decode cX11_init 203 = .ok (.bipush 20, 2) := by decide +kernel
theorem dX11_init_205 : decode cX11_init 205 = .ok (.newarray .int, 2) := by decide +kernel
theorem dX11_init_207 : decode cX11_init 207 = .ok (.putfield 88, 3) := by decide +kernel
theorem dX11_init_210 : decode cX11_init 210 = .ok (.aload_n 0, 1) := by decide +kernel
theorem dX11_init_211 : decode cX11_init 211 = .ok (.sipush 429, 3) := by decide +kernel
theorem dX11_init_214 : decode cX11_init 214 = .ok (.newarray .boolean, 2) := by decide +kernel
theorem dX11_init_216 : decode cX11_init 216 = .ok (.putfield 91, 3) := by decide +kernel
theorem dX11_init_219 : decode cX11_init 219 = .ok (.aload_n 0, 1) := by decide +kernel
theorem dX11_init_220 : decode cX11_init 220 = .ok (.sipush 6400, 3) := by decide +kernel
theorem dX11_init_223 : decode cX11_init 223 = .ok (.newarray .int, 2) := by decide +kernel
theorem dX11_init_225 : decode cX11_init 225 = .ok (.putfield 95, 3) := by decide +kernel
theorem dX11_init_228 : decode cX11_init 228 = .ok (.aload_n 0, 1) := by decide +kernel
theorem dX11_init_229 : decode cX11_init 229 = .ok (.iconst 4, 1) := by decide +kernel
theorem dX11_init_230 : decode cX11_init 230 = .ok (.putfield 98, 3) := by decide +kernel
theorem dX11_init_233 : decode cX11_init 233 = .ok (.aload_n 0, 1) := by decide +kernel
theorem dX11_init_234 : decode cX11_init 234 = .ok (.iconst 4, 1) := by decide +kernel
theorem dX11_init_235 : decode cX11_init 235 = .ok (.invokevirtual 101, 3) := by decide +kernel
theorem dX11_init_238 : decode cX11_init 238 = .ok (.aload_n 0, 1) := by decide +kernel
theorem dX11_init_239 : decode cX11_init 239 = .ok (.aload_n 0, 1) := by decide +kernel
theorem dX11_init_240 : decode cX11_init 240 = .ok (.getfield 27, 3) := by decide +kernel
theorem dX11_init_243 : decode cX11_init 243 = .ok (.iconst 0, 1) := by decide +kernel
theorem dX11_init_244 : decode cX11_init 244 = .ok (.laload, 1) := by decide +kernel
theorem dX11_init_245 : decode cX11_init 245 = .ok (.putfield 105, 3) := by decide +kernel
theorem dX11_init_248 : decode cX11_init 248 = .ok (.aload_n 0, 1) := by decide +kernel
theorem dX11_init_249 : decode cX11_init 249 = .ok (.getfield 67, 3) := by decide +kernel
theorem dX11_init_252 : decode cX11_init 252 = .ok (.iconst 0, 1) := by decide +kernel
theorem dX11_init_253 : decode cX11_init 253 = .ok (.iconst 1, 1) := by decide +kernel
theorem dX11_init_254 : decode cX11_init 254 = .ok (.iastore, 1) := by decide +kernel
theorem dX11_init_255 : decode cX11_init 255 = .ok (.aload_n 0, 1) := by decide +kernel
theorem dX11_init_256 : decode cX11_init 256 = .ok (.iconst 1, 1) := by decide +kernel
theorem dX11_init_257 : decode cX11_init 257 = .ok (.putfield 109, 3) := by decide +kernel
theorem dX11_init_260 : decode cX11_init 260 = .ok (.return_, 1) := by decide +kernel
theorem dX11_in_0 : decode cX11_in 0 = .ok (.iload_n 0, 1) := by decide +kernel
theorem dX11_in_1 : decode cX11_in 1 = .ok (.iload_n 1, 1) := by decide +kernel
theorem dX11_in_2 : decode cX11_in 2 = .ok (.if_icmp .lt 12, 3) := by decide +kernel
theorem dX11_in_5 : decode cX11_in 5 = .ok (.iload_n 0, 1) := by decide +kernel
theorem dX11_in_6 : decode cX11_in 6 = .ok (.iload_n 2, 1) := by decide +kernel
theorem dX11_in_7 : decode cX11_in 7 = .ok (.if_icmp .gt 7, 3) := by decide +kernel
theorem dX11_in_10 : decode cX11_in 10 = .ok (.iconst 1, 1) := by decide +kernel
theorem dX11_in_11 : decode cX11_in 11 = .ok (.goto 4, 3) := by decide +kernel
theorem dX11_in_14 : decode cX11_in 14 = .ok (.iconst 0, 1) := by decide +kernel
theorem dX11_in_15 : decode cX11_in 15 = .ok (.ireturn, 1) := by decide +kernel
theorem dX11_feed_0 : decode cX11_feed 0 = .ok (.aload_n 0, 1) := by decide +kernel
theorem dX11_feed_1 : decode cX11_feed 1 = .ok (.getfield 112, 3) := by decide +kernel
theorem dX11_feed_4 : decode cX11_feed 4 = .ok (.bipush 20, 2) := by decide +kernel
theorem dX11_feed_6 : decode cX11_feed 6 = .ok (.iadd, 1) := by decide +kernel
theorem dX11_feed_7 : decode cX11_feed 7 = .ok (.sipush 300, 3) := by decide +kernel
theorem dX11_feed_10 : decode cX11_feed 10 = .ok (.if_icmp .le 6, 3) := by decide +kernel
theorem dX11_feed_13 : decode cX11_feed 13 = .ok (.bipush (-3), 2) := by decide +kernel
theorem dX11_feed_15 : decode cX11_feed 15 = .ok (.ireturn, 1) := by decide +kernel
theorem dX11_feed_16 : decode cX11_feed 16 = .ok (.iconst 0, 1) := by decide +kernel
theorem dX11_feed_17 : decode cX11_feed 17 = .ok (.istore 6, 2) := by decide +kernel
theorem dX11_feed_19 : decode cX11_feed 19 = .ok (.iload 6, 2) := by decide +kernel
theorem dX11_feed_21 : decode cX11_feed 21 = .ok (.iconst 5, 1) := by decide +kernel
theorem dX11_feed_22 : decode cX11_feed 22 = .ok (.if_icmp .ge 93, 3) := by decide +kernel
theorem dX11_feed_25 : decode cX11_feed 25 = .ok (.iload 6, 2) := by decide +kernel
theorem dX11_feed_27 : decode cX11_feed 27 = .ok (.ifCond .ne 7, 3) := by decide +kernel
theorem dX11_feed_30 : decode cX11_feed 30 = .ok (.iload_n 1, 1) := by decide +kernel
theorem dX11_feed_31 : decode cX11_feed 31 = .ok (.goto 36, 3) := by decide +kernel
theorem dX11_feed_34 : decode cX11_feed 34 = .ok (.iload 6, 2) := by decide +kernel
theorem dX11_feed_36 : decode cX11_feed 36 = .ok (.iconst 1, 1) := by decide +kernel
theorem dX11_feed_37 : decode cX11_feed 37 = .ok (.if_icmp .ne 7, 3) := by decide +kernel
theorem dX11_feed_40 : decode cX11_feed 40 = .ok (.iload_n 2, 1) := by decide +kernel
theorem dX11_feed_41 : decode cX11_feed 41 = .ok (.goto 26, 3) := by decide +kernel
theorem dX11_feed_44 : decode cX11_feed 44 = .ok (.iload 6, 2) := by decide +kernel
theorem dX11_feed_46 : decode cX11_feed 46 = .ok (.iconst 2, 1) := by decide +kernel
theorem dX11_feed_47 : decode cX11_feed 47 = .ok (.if_icmp .ne 7, 3) := by decide +kernel
theorem dX11_feed_50 : decode cX11_feed 50 = .ok (.iload_n 3, 1) := by decide +kernel
theorem dX11_feed_51 : decode cX11_feed 51 = .ok (.goto 16, 3) := by decide +kernel
theorem dX11_feed_54 : decode cX11_feed 54 = .ok (.iload 6, 2) := by decide +kernel
theorem dX11_feed_56 : decode cX11_feed 56 = .ok (.iconst 3, 1) := by decide +kernel
theorem dX11_feed_57 : decode cX11_feed 57 = .ok (.if_icmp .ne 8, 3) := by decide +kernel
theorem dX11_feed_60 : decode cX11_feed 60 = .ok (.iload 4, 2) := by decide +kernel
theorem dX11_feed_62 : decode cX11_feed 62 = .ok (.goto 5, 3) := by decide +kernel
theorem dX11_feed_65 : decode cX11_feed 65 = .ok (.iload 5, 2) := by decide +kernel
theorem dX11_feed_67 : decode cX11_feed 67 = .ok (.istore 7, 2) := by decide +kernel
theorem dX11_feed_69 : decode cX11_feed 69 = .ok (.bipush 24, 2) := by decide +kernel
theorem dX11_feed_71 : decode cX11_feed 71 = .ok (.istore 8, 2) := by decide +kernel
theorem dX11_feed_73 : decode cX11_feed 73 = .ok (.iload 8, 2) := by decide +kernel
theorem dX11_feed_75 : decode cX11_feed 75 = .ok (.ifCond .lt 34, 3) := by decide +kernel
theorem dX11_feed_78 : decode cX11_feed 78 = .ok (.aload_n 0, 1) := by decide +kernel
theorem dX11_feed_79 : decode cX11_feed 79 = .ok (.getfield 7, 3) := by decide +kernel
theorem dX11_feed_82 : decode cX11_feed 82 = .ok (.aload_n 0, 1) := by decide +kernel
theorem dX11_feed_83 : decode cX11_feed 83 = .ok (.getfield 112, 3) := by decide +kernel
theorem dX11_feed_86 : decode cX11_feed 86 = .ok (.iload 7, 2) := by decide +kernel
theorem dX11_feed_88 : decode cX11_feed 88 = .ok (.iload 8, 2) := by decide +kernel
theorem dX11_feed_90 : decode cX11_feed 90 = .ok (.ishr, 1) := by decide +kernel
theorem dX11_feed_91 : decode cX11_feed 91 = .ok (.i2b, 1) := by decide +kernel
theorem dX11_feed_92 : decode cX11_feed 92 = .ok (.bastore, 1) := by decide +kernel
theorem dX11_feed_93 : decode cX11_feed 93 = .ok (.aload_n 0, 1) := by decide +kernel
theorem dX11_feed_94 : decode cX11_feed 94 = .ok (.dup, 1) := by decide +kernel
theorem dX11_feed_95 : decode cX11_feed 95 = .ok (.getfield 112, 3) := by decide +kernel
theorem dX11_feed_98 : decode cX11_feed 98 = .ok (.iconst 1, 1) := by decide +kernel
theorem dX11_feed_99 : decode cX11_feed 99 = .ok (.iadd, 1) := by decide +kernel
theorem dX11_feed_100 : decode cX11_feed 100 = .ok (.putfield 112, 3) := by decide +kernel
theorem dX11_feed_103 : decode cX11_feed 103 = .ok (.iinc 8 (-8), 3) := by decide +kernel
theorem dX11_feed_106 : decode cX11_feed 106 = .ok (.goto (-33), 3) := by decide +kernel
theorem dX11_feed_109 : decode cX11_feed 109 = .ok (.iinc 6 1, 3) := by decide +kernel
theorem dX11_feed_112 : decode cX11_feed 112 = .ok (.goto (-93), 3) := by decide +kernel
theorem dX11_feed_115 : decode cX11_feed 115 = .ok (.aload_n 0, 1) := by decide +kernel
theorem dX11_feed_116 : decode cX11_feed 116 = .ok (.getfield 112, 3) := by decide +kernel
theorem dX11_feed_119 : decode cX11_feed 119 = .ok (.ireturn, 1) := by decide +kernel
theorem dX11_end_0 : decode cX11_end 0 = .ok (.iload_n 1, 1) := by decide +kernel
theorem dX11_end_1 : decode cX11_end 1 = .ok (.ifCond .lt 11, 3) := by decide +kernel
theorem dX11_end_4 : decode cX11_end 4 = .ok (.iload_n 1, 1) := by decide +kernel
theorem dX11_end_5 : decode cX11_end 5 = .ok (.aload_n 0, 1) := by decide +kernel
theorem dX11_end_6 : decode cX11_end 6 = .ok (.getfield 112, 3) := by decide +kernel
theorem dX11_end_9 : decode cX11_end 9 = .ok (.if_icmp .le 5, 3) := by decide +kernel
theorem dX11_end_12 : decode cX11_end 12 = .ok (.iconst (-1), 1) := by decide +kernel
theorem dX11_end_13 : decode cX11_end 13 = .ok (.ireturn, 1) := by decide +kernel
theorem dX11_end_14 : decode cX11_end 14 = .ok (.aload_n 0, 1) := by decide +kernel
theorem dX11_end_15 : decode cX11_end 15 = .ok (.iload_n 1, 1) := by decide +kernel
theorem dX11_end_16 : decode cX11_end 16 = .ok (.putfield 112, 3) := by decide +kernel
theorem dX11_end_19 : decode cX11_end 19 = .ok (.iload_n 1, 1) := by decide +kernel
theorem dX11_end_20 : decode cX11_end 20 = .ok (.ireturn, 1) := by decide +kernel
theorem dX11_byteAt_0 : decode cX11_byteAt 0 = .ok (.iload_n 1, 1) := by decide +kernel
theorem dX11_byteAt_1 : decode cX11_byteAt 1 = .ok (.aload_n 0, 1) := by decide +kernel
theorem dX11_byteAt_2 : decode cX11_byteAt 2 = .ok (.getfield 115, 3) := by decide +kernel
theorem dX11_byteAt_5 : decode cX11_byteAt 5 = .ok (.if_icmp .ge 16, 3) := by decide +kernel
theorem dX11_byteAt_8 : decode cX11_byteAt 8 = .ok (.aload_n 0, 1) := by decide +kernel
theorem dX11_byteAt_9 : decode cX11_byteAt 9 = .ok (.getfield 7, 3) := by decide +kernel
theorem dX11_byteAt_12 : decode cX11_byteAt 12 = .ok (.iload_n 1, 1) := by decide +kernel
theorem dX11_byteAt_13 : decode cX11_byteAt 13 = .ok (.baload, 1) := by decide +kernel
theorem dX11_byteAt_14 : decode cX11_byteAt 14 = .ok (.sipush 255, 3) := by decide +kernel
theorem dX11_byteAt_17 : decode cX11_byteAt 17 = .ok (.iand, 1) := by decide +kernel
theorem dX11_byteAt_18 : decode cX11_byteAt 18 = .ok (.goto 4, 3) := by decide +kernel
theorem dX11_byteAt_21 : decode cX11_byteAt 21 = .ok (.iconst (-1), 1) := by decide +kernel
theorem dX11_byteAt_22 : decode cX11_byteAt 22 = .ok (.ireturn, 1) := by decide +kernel
theorem dX11_isSmall_0 : decode cX11_isSmall 0 = .ok (.iload_n 0, 1) := by decide +kernel
theorem dX11_isSmall_1 : decode cX11_isSmall 1 = .ok (.bipush 97, 2) := by decide +kernel
theorem dX11_isSmall_3 : decode cX11_isSmall 3 = .ok (.if_icmp .lt 13, 3) := by decide +kernel
theorem dX11_isSmall_6 : decode cX11_isSmall 6 = .ok (.iload_n 0, 1) := by decide +kernel
theorem dX11_isSmall_7 : decode cX11_isSmall 7 = .ok (.bipush 122, 2) := by decide +kernel
theorem dX11_isSmall_9 : decode cX11_isSmall 9 = .ok (.if_icmp .gt 7, 3) := by decide +kernel
theorem dX11_isSmall_12 : decode cX11_isSmall 12 = .ok (.iconst 1, 1) := by decide +kernel
theorem dX11_isSmall_13 : decode cX11_isSmall 13 = .ok (.goto 4, 3) := by decide +kernel
theorem dX11_isSmall_16 : decode cX11_isSmall 16 = .ok (.iconst 0, 1) := by decide +kernel
theorem dX11_isSmall_17 : decode cX11_isSmall 17 = .ok (.ireturn, 1) := by decide +kernel
theorem dX11_isDigit_0 : decode cX11_isDigit 0 = .ok (.iload_n 0, 1) := by decide +kernel
theorem dX11_isDigit_1 : decode cX11_isDigit 1 = .ok (.bipush 48, 2) := by decide +kernel
theorem dX11_isDigit_3 : decode cX11_isDigit 3 = .ok (.if_icmp .lt 13, 3) := by decide +kernel
theorem dX11_isDigit_6 : decode cX11_isDigit 6 = .ok (.iload_n 0, 1) := by decide +kernel
theorem dX11_isDigit_7 : decode cX11_isDigit 7 = .ok (.bipush 57, 2) := by decide +kernel
theorem dX11_isDigit_9 : decode cX11_isDigit 9 = .ok (.if_icmp .gt 7, 3) := by decide +kernel
theorem dX11_isDigit_12 : decode cX11_isDigit 12 = .ok (.iconst 1, 1) := by decide +kernel
theorem dX11_isDigit_13 : decode cX11_isDigit 13 = .ok (.goto 4, 3) := by decide +kernel
theorem dX11_isDigit_16 : decode cX11_isDigit 16 = .ok (.iconst 0, 1) := by decide +kernel
theorem dX11_isDigit_17 : decode cX11_isDigit 17 = .ok (.ireturn, 1) := by decide +kernel
theorem dX11_scan_0 : decode cX11_scan 0 = .ok (.aload_n 0, 1) := by decide +kernel
theorem dX11_scan_1 : decode cX11_scan 1 = .ok (.getfield 118, 3) := by decide +kernel
theorem dX11_scan_4 : decode cX11_scan 4 = .ok (.istore_n 1, 1) := by decide +kernel
theorem dX11_scan_5 : decode cX11_scan 5 = .ok (.aload_n 0, 1) := by decide +kernel
theorem dX11_scan_6 : decode cX11_scan 6 = .ok (.iload_n 1, 1) := by decide +kernel
theorem dX11_scan_7 : decode cX11_scan 7 = .ok (.invokevirtual 121, 3) := by decide +kernel
theorem dX11_scan_10 : decode cX11_scan 10 = .ok (.bipush 32, 2) := by decide +kernel
theorem dX11_scan_12 : decode cX11_scan 12 = .ok (.if_icmp .eq 13, 3) := by decide +kernel
theorem dX11_scan_15 : decode cX11_scan 15 = .ok (.aload_n 0, 1) := by decide +kernel
theorem dX11_scan_16 : decode cX11_scan 16 = .ok (.iload_n 1, 1) := by decide +kernel
theorem dX11_scan_17 : decode cX11_scan 17 = .ok (.invokevirtual 121, 3) := by decide +kernel
theorem dX11_scan_20 : decode cX11_scan 20 = .ok (.bipush 10, 2) := by decide +kernel
theorem dX11_scan_22 : decode cX11_scan 22 = .ok (.if_icmp .ne 9, 3) := by decide +kernel
theorem dX11_scan_25 : decode cX11_scan 25 = .ok (.iinc 1 1, 3) := by decide +kernel
theorem dX11_scan_28 : decode cX11_scan 28 = .ok (.goto (-23), 3) := by decide +kernel
theorem dX11_scan_31 : decode cX11_scan 31 = .ok (.aload_n 0, 1) := by decide +kernel
theorem dX11_scan_32 : decode cX11_scan 32 = .ok (.iload_n 1, 1) := by decide +kernel
theorem dX11_scan_33 : decode cX11_scan 33 = .ok (.putfield 125, 3) := by decide +kernel
theorem dX11_scan_36 : decode cX11_scan 36 = .ok (.aload_n 0, 1) := by decide +kernel
theorem dX11_scan_37 : decode cX11_scan 37 = .ok (.iload_n 1, 1) := by decide +kernel
theorem dX11_scan_38 : decode cX11_scan 38 = .ok (.invokevirtual 121, 3) := by decide +kernel
theorem dX11_scan_41 : decode cX11_scan 41 = .ok (.istore_n 2, 1) := by decide +kernel
theorem dX11_scan_42 : decode cX11_scan 42 = .ok (.iload_n 1, 1) := by decide +kernel
theorem dX11_scan_43 : decode cX11_scan 43 = .ok (.iconst 1, 1) := by decide +kernel
theorem dX11_scan_44 : decode cX11_scan 44 = .ok (.iadd, 1) := by decide +kernel
theorem dX11_scan_45 : decode cX11_scan 45 = .ok (.istore_n 3, 1) := by decide +kernel
theorem dX11_scan_46 : decode cX11_scan 46 = .ok (.iload_n 2, 1) := by decide +kernel
theorem dX11_scan_47 : decode cX11_scan 47 = .ok (.iconst (-1), 1) := by decide +kernel
theorem dX11_scan_48 : decode cX11_scan 48 = .ok (.if_icmp .ne 13, 3) := by decide +kernel
theorem dX11_scan_51 : decode cX11_scan 51 = .ok (.aload_n 0, 1) := by decide +kernel
theorem dX11_scan_52 : decode cX11_scan 52 = .ok (.iconst 4, 1) := by decide +kernel
theorem dX11_scan_53 : decode cX11_scan 53 = .ok (.putfield 128, 3) := by decide +kernel
theorem dX11_scan_56 : decode cX11_scan 56 = .ok (.iload_n 1, 1) := by decide +kernel
theorem dX11_scan_57 : decode cX11_scan 57 = .ok (.istore_n 3, 1) := by decide +kernel
theorem dX11_scan_58 : decode cX11_scan 58 = .ok (.goto 187, 3) := by decide +kernel
theorem dX11_scan_61 : decode cX11_scan 61 = .ok (.iload_n 2, 1) := by decide +kernel
theorem dX11_scan_62 : decode cX11_scan 62 = .ok (.invokestatic 131, 3) := by decide +kernel
theorem dX11_scan_65 : decode cX11_scan 65 = .ok (.ifCond .eq 80, 3) := by decide +kernel
theorem dX11_scan_68 : decode cX11_scan 68 = .ok (.aload_n 0, 1) := by decide +kernel
theorem dX11_scan_69 : decode cX11_scan 69 = .ok (.lconst 0, 1) := by decide +kernel
theorem dX11_scan_70 : decode cX11_scan 70 = .ok (.putfield 135, 3) := by decide +kernel
theorem dX11_scan_73 : decode cX11_scan 73 = .ok (.iload_n 1, 1) := by decide +kernel
theorem dX11_scan_74 : decode cX11_scan 74 = .ok (.istore_n 3, 1) := by decide +kernel
theorem dX11_scan_75 : decode cX11_scan 75 = .ok (.aload_n 0, 1) := by decide +kernel
theorem dX11_scan_76 : decode cX11_scan 76 = .ok (.iload_n 3, 1) := by decide +kernel
theorem dX11_scan_77 : decode cX11_scan 77 = .ok (.invokevirtual 121, 3) := by decide +kernel
theorem dX11_scan_80 : decode cX11_scan 80 = .ok (.invokestatic 131, 3) := by decide +kernel
theorem dX11_scan_83 : decode cX11_scan 83 = .ok (.ifCond .eq 42, 3) := by decide +kernel
theorem dX11_scan_86 : decode cX11_scan 86 = .ok (.iload_n 3, 1) := by decide +kernel
theorem dX11_scan_87 : decode cX11_scan 87 = .ok (.iload_n 1, 1) := by decide +kernel
theorem dX11_scan_88 : decode cX11_scan 88 = .ok (.isub, 1) := by decide +kernel
theorem dX11_scan_89 : decode cX11_scan 89 = .ok (.bipush 8, 2) := by decide +kernel
theorem dX11_scan_91 : decode cX11_scan 91 = .ok (.if_icmp .ge 28, 3) := by decide +kernel
theorem dX11_scan_94 : decode cX11_scan 94 = .ok (.aload_n 0, 1) := by decide +kernel
theorem dX11_scan_95 : decode cX11_scan 95 = .ok (.ldc2_w 138, 3) := by decide +kernel
theorem dX11_scan_98 : decode cX11_scan 98 = .ok (.aload_n 0, 1) := by decide +kernel
theorem dX11_scan_99 : decode cX11_scan 99 = .ok (.getfield 135, 3) := by decide +kernel
theorem dX11_scan_102 : decode cX11_scan 102 = .ok (.lmul, 1) := by decide +kernel
theorem dX11_scan_103 : decode cX11_scan 103 = .ok (.aload_n 0, 1) := by decide +kernel
theorem dX11_scan_104 : decode cX11_scan 104 = .ok (.iload_n 3, 1) := by decide +kernel
theorem dX11_scan_105 : decode cX11_scan 105 = .ok (.invokevirtual 121, 3) := by decide +kernel
theorem dX11_scan_108 : decode cX11_scan 108 = .ok (.i2l, 1) := by decide +kernel
theorem dX11_scan_109 : decode cX11_scan 109 = .ok (.ladd, 1) := by decide +kernel
theorem dX11_scan_110 : decode cX11_scan 110 = .ok (.ldc2_w 140, 3) := by decide +kernel
theorem dX11_scan_113 : decode cX11_scan 113 = .ok (.lsub, 1) := by decide +kernel
theorem dX11_scan_114 : decode cX11_scan 114 = .ok (.lconst 1, 1) := by decide +kernel
theorem dX11_scan_115 : decode cX11_scan 115 = .ok (.ladd, 1) := by decide +kernel
theorem dX11_scan_116 : decode cX11_scan 116 = .ok (.putfield 135, 3) := by decide +kernel
theorem dX11_scan_119 : decode cX11_scan 119 = .ok (.iinc 3 1, 3) := by decide +kernel
theorem dX11_scan_122 : decode cX11_scan 122 = .ok (.goto (-47), 3) := by decide +kernel
theorem dX11_scan_125 : decode cX11_scan 125 = .ok (.aload_n 0, 1) := by decide +kernel
theorem dX11_scan_126 : decode cX11_scan 126 = .ok (.iload_n 3, 1) := by decide +kernel
theorem dX11_scan_127 : decode cX11_scan 127 = .ok (.iload_n 1, 1) := by decide +kernel
theorem dX11_scan_128 : decode cX11_scan 128 = .ok (.isub, 1) := by decide +kernel
theorem dX11_scan_129 : decode cX11_scan 129 = .ok (.bipush 8, 2) := by decide +kernel
theorem dX11_scan_131 : decode cX11_scan 131 = .ok (.if_icmp .le 7, 3) := by decide +kernel
theorem dX11_scan_134 : decode cX11_scan 134 = .ok (.iconst 0, 1) := by decide +kernel
theorem dX11_scan_135 : decode cX11_scan 135 = .ok (.goto 4, 3) := by decide +kernel
theorem dX11_scan_138 : decode cX11_scan 138 = .ok (.iconst 1, 1) := by decide +kernel
theorem dX11_scan_139 : decode cX11_scan 139 = .ok (.putfield 128, 3) := by decide +kernel
theorem dX11_scan_142 : decode cX11_scan 142 = .ok (.goto 103, 3) := by decide +kernel
theorem dX11_scan_145 : decode cX11_scan 145 = .ok (.iload_n 2, 1) := by decide +kernel
theorem dX11_scan_146 : decode cX11_scan 146 = .ok (.invokestatic 142, 3) := by decide +kernel
theorem dX11_scan_149 : decode cX11_scan 149 = .ok (.ifCond .eq 81, 3) := by decide +kernel
theorem dX11_scan_152 : decode cX11_scan 152 = .ok (.aload_n 0, 1) := by decide +kernel
theorem dX11_scan_153 : decode cX11_scan 153 = .ok (.iload_n 2, 1) := by decide +kernel
theorem dX11_scan_154 : decode cX11_scan 154 = .ok (.bipush 48, 2) := by decide +kernel
theorem dX11_scan_156 : decode cX11_scan 156 = .ok (.isub, 1) := by decide +kernel
theorem dX11_scan_157 : decode cX11_scan 157 = .ok (.putfield 145, 3) := by decide +kernel
theorem dX11_scan_160 : decode cX11_scan 160 = .ok (.aload_n 0, 1) := by decide +kernel
theorem dX11_scan_161 : decode cX11_scan 161 = .ok (.iload_n 3, 1) := by decide +kernel
theorem dX11_scan_162 : decode cX11_scan 162 = .ok (.invokevirtual 121, 3) := by decide +kernel
theorem dX11_scan_165 : decode cX11_scan 165 = .ok (.invokestatic 142, 3) := by decide +kernel
theorem dX11_scan_168 : decode cX11_scan 168 = .ok (.ifCond .eq 43, 3) := by decide +kernel
theorem dX11_scan_171 : decode cX11_scan 171 = .ok (.aload_n 0, 1) := by decide +kernel
theorem dX11_scan_172 : decode cX11_scan 172 = .ok (.iload_n 3, 1) := by decide +kernel
theorem dX11_scan_173 : decode cX11_scan 173 = .ok (.iload_n 1, 1) := by decide +kernel
theorem dX11_scan_174 : decode cX11_scan 174 = .ok (.isub, 1) := by decide +kernel
theorem dX11_scan_175 : decode cX11_scan 175 = .ok (.iconst 3, 1) := by decide +kernel
theorem dX11_scan_176 : decode cX11_scan 176 = .ok (.if_icmp .ge 22, 3) := by decide +kernel
theorem dX11_scan_179 : decode cX11_scan 179 = .ok (.bipush 10, 2) := by decide +kernel
theorem dX11_scan_181 : decode cX11_scan 181 = .ok (.aload_n 0, 1) := by decide +kernel
theorem dX11_scan_182 : decode cX11_scan 182 = .ok (.getfield 145, 3) := by decide +kernel
theorem dX11_scan_185 : decode cX11_scan 185 = .ok (.imul, 1) := by decide +kernel
theorem dX11_scan_186 : decode cX11_scan 186 = .ok (.aload_n 0, 1) := by decide +kernel
theorem dX11_scan_187 : decode cX11_scan 187 = .ok (.iload_n 3, 1) := by decide +kernel
theorem dX11_scan_188 : decode cX11_scan 188 = .ok (.invokevirtual 121, 3) := by decide +kernel
theorem dX11_scan_191 : decode cX11_scan 191 = .ok (.iadd, 1) := by decide +kernel
theorem dX11_scan_192 : decode cX11_scan 192 = .ok (.bipush 48, 2) := by decide +kernel
theorem dX11_scan_194 : decode cX11_scan 194 = .ok (.isub, 1) := by decide +kernel
theorem dX11_scan_195 : decode cX11_scan 195 = .ok (.goto 7, 3) := by decide +kernel
theorem dX11_scan_198 : decode cX11_scan 198 = .ok (.aload_n 0, 1) := by decide +kernel
theorem dX11_scan_199 : decode cX11_scan 199 = .ok (.getfield 145, 3) := by decide +kernel
theorem dX11_scan_202 : decode cX11_scan 202 = .ok (.putfield 145, 3) := by decide +kernel
theorem dX11_scan_205 : decode cX11_scan 205 = .ok (.iinc 3 1, 3) := by decide +kernel
theorem dX11_scan_208 : decode cX11_scan 208 = .ok (.goto (-48), 3) := by decide +kernel
theorem dX11_scan_211 : decode cX11_scan 211 = .ok (.aload_n 0, 1) := by decide +kernel
theorem dX11_scan_212 : decode cX11_scan 212 = .ok (.iload_n 3, 1) := by decide +kernel
theorem dX11_scan_213 : decode cX11_scan 213 = .ok (.iload_n 1, 1) := by decide +kernel
theorem dX11_scan_214 : decode cX11_scan 214 = .ok (.isub, 1) := by decide +kernel
theorem dX11_scan_215 : decode cX11_scan 215 = .ok (.iconst 3, 1) := by decide +kernel
theorem dX11_scan_216 : decode cX11_scan 216 = .ok (.if_icmp .le 7, 3) := by decide +kernel
theorem dX11_scan_219 : decode cX11_scan 219 = .ok (.iconst 0, 1) := by decide +kernel
theorem dX11_scan_220 : decode cX11_scan 220 = .ok (.goto 4, 3) := by decide +kernel
theorem dX11_scan_223 : decode cX11_scan 223 = .ok (.iconst 2, 1) := by decide +kernel
theorem dX11_scan_224 : decode cX11_scan 224 = .ok (.putfield 128, 3) := by decide +kernel
theorem dX11_scan_227 : decode cX11_scan 227 = .ok (.goto 18, 3) := by decide +kernel
theorem dX11_scan_230 : decode cX11_scan 230 = .ok (.aload_n 0, 1) := by decide +kernel
theorem dX11_scan_231 : decode cX11_scan 231 = .ok (.iload_n 2, 1) := by decide +kernel
theorem dX11_scan_232 : decode cX11_scan 232 = .ok (.bipush 59, 2) := by decide +kernel
theorem dX11_scan_234 : decode cX11_scan 234 = .ok (.if_icmp .ne 7, 3) := by decide +kernel
theorem dX11_scan_237 : decode cX11_scan 237 = .ok (.iconst 3, 1) := by decide +kernel
theorem dX11_scan_238 : decode cX11_scan 238 = .ok (.goto 4, 3) := by decide +kernel
theorem dX11_scan_241 : decode cX11_scan 241 = .ok (.iconst 0, 1) := by decide +kernel
theorem dX11_scan_242 : decode cX11_scan 242 = .ok (.putfield 128, 3) := by decide +kernel
theorem dX11_scan_245 : decode cX11_scan 245 = .ok (.aload_n 0, 1) := by decide +kernel
theorem dX11_scan_246 : decode cX11_scan 246 = .ok (.iload_n 3, 1) := by decide +kernel
theorem dX11_scan_247 : decode cX11_scan 247 = .ok (.putfield 118, 3) := by decide +kernel
theorem dX11_scan_250 : decode cX11_scan 250 = .ok (.return_, 1) := by decide +kernel
theorem dX11_begin_0 : decode cX11_begin 0 = .ok (.aload_n 0, 1) := by decide +kernel
theorem dX11_begin_1 : decode cX11_begin 1 = .ok (.aload_n 0, 1) := by decide +kernel
theorem dX11_begin_2 : decode cX11_begin 2 = .ok (.getfield 112, 3) := by decide +kernel
theorem dX11_begin_5 : decode cX11_begin 5 = .ok (.putfield 115, 3) := by decide +kernel
theorem dX11_begin_8 : decode cX11_begin 8 = .ok (.aload_n 0, 1) := by decide +kernel
theorem dX11_begin_9 : decode cX11_begin 9 = .ok (.iconst 0, 1) := by decide +kernel
theorem dX11_begin_10 : decode cX11_begin 10 = .ok (.putfield 112, 3) := by decide +kernel
theorem dX11_begin_13 : decode cX11_begin 13 = .ok (.aload_n 0, 1) := by decide +kernel
theorem dX11_begin_14 : decode cX11_begin 14 = .ok (.iconst 0, 1) := by decide +kernel
theorem dX11_begin_15 : decode cX11_begin 15 = .ok (.putfield 118, 3) := by decide +kernel
theorem dX11_begin_18 : decode cX11_begin 18 = .ok (.aload_n 0, 1) := by decide +kernel
theorem dX11_begin_19 : decode cX11_begin 19 = .ok (.invokevirtual 148, 3) := by decide +kernel
theorem dX11_begin_22 : decode cX11_begin 22 = .ok (.return_, 1) := by decide +kernel
theorem dX11_fails_0 : decode cX11_fails 0 = .ok (.aload_n 0, 1) := by decide +kernel
theorem dX11_fails_1 : decode cX11_fails 1 = .ok (.iload_n 1, 1) := by decide +kernel
theorem dX11_fails_2 : decode cX11_fails 2 = .ok (.putfield 151, 3) := by decide +kernel
theorem dX11_fails_5 : decode cX11_fails 5 = .ok (.aload_n 0, 1) := by decide +kernel
theorem dX11_fails_6 : decode cX11_fails 6 = .ok (.aload_n 0, 1) := by decide +kernel
theorem dX11_fails_7 : decode cX11_fails 7 = .ok (.getfield 125, 3) := by decide +kernel
theorem dX11_fails_10 : decode cX11_fails 10 = .ok (.putfield 13, 3) := by decide +kernel
theorem dX11_fails_13 : decode cX11_fails 13 = .ok (.iconst 0, 1) := by decide +kernel
theorem dX11_fails_14 : decode cX11_fails 14 = .ok (.ireturn, 1) := by decide +kernel
theorem dX11_fault_0 : decode cX11_fault 0 = .ok (.iload_n 1, 1) := by decide +kernel
theorem dX11_fault_1 : decode cX11_fault 1 = .ok (.ifCond .ne 10, 3) := by decide +kernel
theorem dX11_fault_4 : decode cX11_fault 4 = .ok (.aload_n 0, 1) := by decide +kernel
theorem dX11_fault_5 : decode cX11_fault 5 = .ok (.getfield 151, 3) := by decide +kernel
theorem dX11_fault_8 : decode cX11_fault 8 = .ok (.goto 16, 3) := by decide +kernel
theorem dX11_fault_11 : decode cX11_fault 11 = .ok (.iload_n 1, 1) := by decide +kernel
theorem dX11_fault_12 : decode cX11_fault 12 = .ok (.iconst 1, 1) := by decide +kernel
theorem dX11_fault_13 : decode cX11_fault 13 = .ok (.if_icmp .ne 10, 3) := by decide +kernel
theorem dX11_fault_16 : decode cX11_fault 16 = .ok (.aload_n 0, 1) := by decide +kernel
theorem dX11_fault_17 : decode cX11_fault 17 = .ok (.getfield 13, 3) := by decide +kernel
theorem dX11_fault_20 : decode cX11_fault 20 = .ok (.goto 4, 3) := by decide +kernel
theorem dX11_fault_23 : decode cX11_fault 23 = .ok (.iconst (-1), 1) := by decide +kernel
theorem dX11_fault_24 : decode cX11_fault 24 = .ok (.ireturn, 1) := by decide +kernel
theorem dX11_isNext_0 : decode cX11_isNext 0 = .ok (.iload_n 1, 1) := by decide +kernel
theorem dX11_isNext_1 : decode cX11_isNext 1 = .ok (.iconst 1, 1) := by decide +kernel
theorem dX11_isNext_2 : decode cX11_isNext 2 = .ok (.iadd, 1) := by decide +kernel
theorem dX11_isNext_3 : decode cX11_isNext 3 = .ok (.iload_n 0, 1) := by decide +kernel
theorem dX11_isNext_4 : decode cX11_isNext 4 = .ok (.irem, 1) := by decide +kernel
theorem dX11_isNext_5 : decode cX11_isNext 5 = .ok (.iload_n 2, 1) := by decide +kernel
theorem dX11_isNext_6 : decode cX11_isNext 6 = .ok (.if_icmp .eq 12, 3) := by decide +kernel
theorem dX11_isNext_9 : decode cX11_isNext 9 = .ok (.iload_n 2, 1) := by decide +kernel
theorem dX11_isNext_10 : decode cX11_isNext 10 = .ok (.iconst 1, 1) := by decide +kernel
theorem dX11_isNext_11 : decode cX11_isNext 11 = .ok (.iadd, 1) := by decide +kernel
theorem dX11_isNext_12 : decode cX11_isNext 12 = .ok (.iload_n 0, 1) := by decide +kernel
theorem dX11_isNext_13 : decode cX11_isNext 13 = .ok (.irem, 1) := by decide +kernel
theorem dX11_isNext_14 : decode cX11_isNext 14 = .ok (.iload_n 1, 1) := by decide +kernel
theorem dX11_isNext_15 : decode cX11_isNext 15 = .ok (.if_icmp .ne 7, 3) := by decide +kernel
theorem dX11_isNext_18 : decode cX11_isNext 18 = .ok (.iconst 1, 1) := by decide +kernel
theorem dX11_isNext_19 : decode cX11_isNext 19 = .ok (.goto 4, 3) := by decide +kernel
theorem dX11_isNext_22 : decode cX11_isNext 22 = .ok (.iconst 0, 1) := by decide +kernel
theorem dX11_isNext_23 : decode cX11_isNext 23 = .ok (.ireturn, 1) := by decide +kernel
theorem dX11_isLine_0 : decode cX11_isLine 0 = .ok (.iload_n 1, 1) := by decide +kernel
theorem dX11_isLine_1 : decode cX11_isLine 1 = .ok (.iload_n 2, 1) := by decide +kernel
theorem dX11_isLine_2 : decode cX11_isLine 2 = .ok (.if_icmp .eq 16, 3) := by decide +kernel
theorem dX11_isLine_5 : decode cX11_isLine 5 = .ok (.iload_n 0, 1) := by decide +kernel
theorem dX11_isLine_6 : decode cX11_isLine 6 = .ok (.iload_n 1, 1) := by decide +kernel
theorem dX11_isLine_7 : decode cX11_isLine 7 = .ok (.iload_n 2, 1) := by decide +kernel
theorem dX11_isLine_8 : decode cX11_isLine 8 = .ok (.invokestatic 154, 3) := by decide +kernel
theorem dX11_isLine_11 : decode cX11_isLine 11 = .ok (.ifCond .ne 7, 3) := by decide +kernel
theorem dX11_isLine_14 : decode cX11_isLine 14 = .ok (.iconst 1, 1) := by decide +kernel
theorem dX11_isLine_15 : decode cX11_isLine 15 = .ok (.goto 4, 3) := by decide +kernel
theorem dX11_isLine_18 : decode cX11_isLine 18 = .ok (.iconst 0, 1) := by decide +kernel
theorem dX11_isLine_19 : decode cX11_isLine 19 = .ok (.ireturn, 1) := by decide +kernel
theorem dX11_linesOf_0 : decode cX11_linesOf 0 = .ok (.aload_n 0, 1) := by decide +kernel
theorem dX11_linesOf_1 : decode cX11_linesOf 1 = .ok (.getfield 158, 3) := by decide +kernel
theorem dX11_linesOf_4 : decode cX11_linesOf 4 = .ok (.iload_n 1, 1) := by decide +kernel
theorem dX11_linesOf_5 : decode cX11_linesOf 5 = .ok (.if_icmp .ne 4, 3) := by decide +kernel
theorem dX11_linesOf_8 : decode cX11_linesOf 8 = .ok (.return_, 1) := by decide +kernel
theorem dX11_linesOf_9 : decode cX11_linesOf 9 = .ok (.aload_n 0, 1) := by decide +kernel
theorem dX11_linesOf_10 : decode cX11_linesOf 10 = .ok (.iload_n 1, 1) := by decide +kernel
theorem dX11_linesOf_11 : decode cX11_linesOf 11 = .ok (.putfield 158, 3) := by decide +kernel
theorem dX11_linesOf_14 : decode cX11_linesOf 14 = .ok (.aload_n 0, 1) := by decide +kernel
theorem dX11_linesOf_15 : decode cX11_linesOf 15 = .ok (.iconst 0, 1) := by decide +kernel
theorem dX11_linesOf_16 : decode cX11_linesOf 16 = .ok (.putfield 161, 3) := by decide +kernel
theorem dX11_linesOf_19 : decode cX11_linesOf 19 = .ok (.iconst 0, 1) := by decide +kernel
theorem dX11_linesOf_20 : decode cX11_linesOf 20 = .ok (.istore_n 2, 1) := by decide +kernel
theorem dX11_linesOf_21 : decode cX11_linesOf 21 = .ok (.iload_n 2, 1) := by decide +kernel
theorem dX11_linesOf_22 : decode cX11_linesOf 22 = .ok (.iload_n 1, 1) := by decide +kernel
theorem dX11_linesOf_23 : decode cX11_linesOf 23 = .ok (.if_icmp .ge 120, 3) := by decide +kernel
theorem dX11_linesOf_26 : decode cX11_linesOf 26 = .ok (.iload_n 2, 1) := by decide +kernel
theorem dX11_linesOf_27 : decode cX11_linesOf 27 = .ok (.iconst 1, 1) := by decide +kernel
theorem dX11_linesOf_28 : decode cX11_linesOf 28 = .ok (.iadd, 1) := by decide +kernel
theorem dX11_linesOf_29 : decode cX11_linesOf 29 = .ok (.istore_n 3, 1) := by decide +kernel
theorem dX11_linesOf_30 : decode cX11_linesOf 30 = .ok (.iload_n 3, 1) := by decide +kernel
theorem dX11_linesOf_31 : decode cX11_linesOf 31 = .ok (.iload_n 1, 1) := by decide +kernel
theorem dX11_linesOf_32 : decode cX11_linesOf 32 = .ok (.if_icmp .ge 105, 3) := by decide +kernel
theorem dX11_linesOf_35 : decode cX11_linesOf 35 = .ok (.aload_n 0, 1) := by decide +kernel
theorem dX11_linesOf_36 : decode cX11_linesOf 36 = .ok (.getfield 17, 3) := by decide +kernel
theorem dX11_linesOf_39 : decode cX11_linesOf 39 = .ok (.bipush 10, 2) := by decide +kernel
theorem dX11_linesOf_41 : decode cX11_linesOf 41 = .ok (.iload_n 2, 1) := by decide +kernel
theorem dX11_linesOf_42 : decode cX11_linesOf 42 = .ok (.imul, 1) := by decide +kernel
theorem dX11_linesOf_43 : decode cX11_linesOf 43 = .ok (.iload_n 3, 1) := by decide +kernel
theorem dX11_linesOf_44 : decode cX11_linesOf 44 = .ok (.iadd, 1) := by decide +kernel
theorem dX11_linesOf_45 : decode cX11_linesOf 45 = .ok (.iconst (-1), 1) := by decide +kernel
theorem dX11_linesOf_46 : decode cX11_linesOf 46 = .ok (.iastore, 1) := by decide +kernel
theorem dX11_linesOf_47 : decode cX11_linesOf 47 = .ok (.aload_n 0, 1) := by decide +kernel
theorem dX11_linesOf_48 : decode cX11_linesOf 48 = .ok (.getfield 17, 3) := by decide +kernel
theorem dX11_linesOf_51 : decode cX11_linesOf 51 = .ok (.bipush 10, 2) := by decide +kernel
theorem dX11_linesOf_53 : decode cX11_linesOf 53 = .ok (.iload_n 3, 1) := by decide +kernel
theorem dX11_linesOf_54 : decode cX11_linesOf 54 = .ok (.imul, 1) := by decide +kernel
theorem dX11_linesOf_55 : decode cX11_linesOf 55 = .ok (.iload_n 2, 1) := by decide +kernel
theorem dX11_linesOf_56 : decode cX11_linesOf 56 = .ok (.iadd, 1) := by decide +kernel
theorem dX11_linesOf_57 : decode cX11_linesOf 57 = .ok (.iconst (-1), 1) := by decide +kernel
theorem dX11_linesOf_58 : decode cX11_linesOf 58 = .ok (.iastore, 1) := by decide +kernel
theorem dX11_linesOf_59 : decode cX11_linesOf 59 = .ok (.iload_n 1, 1) := by decide +kernel
theorem dX11_linesOf_60 : decode cX11_linesOf 60 = .ok (.iload_n 2, 1) := by decide +kernel
theorem dX11_linesOf_61 : decode cX11_linesOf 61 = .ok (.iload_n 3, 1) := by decide +kernel
theorem dX11_linesOf_62 : decode cX11_linesOf 62 = .ok (.invokestatic 164, 3) := by decide +kernel
theorem dX11_linesOf_65 : decode cX11_linesOf 65 = .ok (.ifCond .ne 6, 3) := by decide +kernel
theorem dX11_linesOf_68 : decode cX11_linesOf 68 = .ok (.goto 63, 3) := by decide +kernel
theorem dX11_linesOf_71 : decode cX11_linesOf 71 = .ok (.aload_n 0, 1) := by decide +kernel
theorem dX11_linesOf_72 : decode cX11_linesOf 72 = .ok (.getfield 17, 3) := by decide +kernel
theorem dX11_linesOf_75 : decode cX11_linesOf 75 = .ok (.bipush 10, 2) := by decide +kernel
theorem dX11_linesOf_77 : decode cX11_linesOf 77 = .ok (.iload_n 2, 1) := by decide +kernel
theorem dX11_linesOf_78 : decode cX11_linesOf 78 = .ok (.imul, 1) := by decide +kernel
theorem dX11_linesOf_79 : decode cX11_linesOf 79 = .ok (.iload_n 3, 1) := by decide +kernel
theorem dX11_linesOf_80 : decode cX11_linesOf 80 = .ok (.iadd, 1) := by decide +kernel
theorem dX11_linesOf_81 : decode cX11_linesOf 81 = .ok (.aload_n 0, 1) := by decide +kernel
theorem dX11_linesOf_82 : decode cX11_linesOf 82 = .ok (.getfield 161, 3) := by decide +kernel
theorem dX11_linesOf_85 : decode cX11_linesOf 85 = .ok (.iastore, 1) := by decide +kernel
theorem dX11_linesOf_86 : decode cX11_linesOf 86 = .ok (.aload_n 0, 1) := by decide +kernel
theorem dX11_linesOf_87 : decode cX11_linesOf 87 = .ok (.getfield 17, 3) := by decide +kernel
theorem dX11_linesOf_90 : decode cX11_linesOf 90 = .ok (.bipush 10, 2) := by decide +kernel
theorem dX11_linesOf_92 : decode cX11_linesOf 92 = .ok (.iload_n 3, 1) := by decide +kernel
theorem dX11_linesOf_93 : decode cX11_linesOf 93 = .ok (.imul, 1) := by decide +kernel
theorem dX11_linesOf_94 : decode cX11_linesOf 94 = .ok (.iload_n 2, 1) := by decide +kernel
theorem dX11_linesOf_95 : decode cX11_linesOf 95 = .ok (.iadd, 1) := by decide +kernel
theorem dX11_linesOf_96 : decode cX11_linesOf 96 = .ok (.aload_n 0, 1) := by decide +kernel
theorem dX11_linesOf_97 : decode cX11_linesOf 97 = .ok (.getfield 161, 3) := by decide +kernel
theorem dX11_linesOf_100 : decode cX11_linesOf 100 = .ok (.iastore, 1) := by decide +kernel
theorem dX11_linesOf_101 : decode cX11_linesOf 101 = .ok (.aload_n 0, 1) := by decide +kernel
theorem dX11_linesOf_102 : decode cX11_linesOf 102 = .ok (.getfield 21, 3) := by decide +kernel
theorem dX11_linesOf_105 : decode cX11_linesOf 105 = .ok (.aload_n 0, 1) := by decide +kernel
theorem dX11_linesOf_106 : decode cX11_linesOf 106 = .ok (.getfield 161, 3) := by decide +kernel
theorem dX11_linesOf_109 : decode cX11_linesOf 109 = .ok (.iload_n 2, 1) := by decide +kernel
theorem dX11_linesOf_110 : decode cX11_linesOf 110 = .ok (.iastore, 1) := by decide +kernel
theorem dX11_linesOf_111 : decode cX11_linesOf 111 = .ok (.aload_n 0, 1) := by decide +kernel
theorem dX11_linesOf_112 : decode cX11_linesOf 112 = .ok (.getfield 24, 3) := by decide +kernel
theorem dX11_linesOf_115 : decode cX11_linesOf 115 = .ok (.aload_n 0, 1) := by decide +kernel
theorem dX11_linesOf_116 : decode cX11_linesOf 116 = .ok (.getfield 161, 3) := by decide +kernel
theorem dX11_linesOf_119 : decode cX11_linesOf 119 = .ok (.iload_n 3, 1) := by decide +kernel
theorem dX11_linesOf_120 : decode cX11_linesOf 120 = .ok (.iastore, 1) := by decide +kernel
theorem dX11_linesOf_121 : decode cX11_linesOf 121 = .ok (.aload_n 0, 1) := by decide +kernel
theorem dX11_linesOf_122 : decode cX11_linesOf 122 = .ok (.dup, 1) := by decide +kernel
theorem dX11_linesOf_123 : decode cX11_linesOf 123 = .ok (.getfield 161, 3) := by decide +kernel
theorem dX11_linesOf_126 : decode cX11_linesOf 126 = .ok (.iconst 1, 1) := by decide +kernel
theorem dX11_linesOf_127 : decode cX11_linesOf 127 = .ok (.iadd, 1) := by decide +kernel
theorem dX11_linesOf_128 : decode cX11_linesOf 128 = .ok (.putfield 161, 3) := by decide +kernel
theorem dX11_linesOf_131 : decode cX11_linesOf 131 = .ok (.iinc 3 1, 3) := by decide +kernel
theorem dX11_linesOf_134 : decode cX11_linesOf 134 = .ok (.goto (-104), 3) := by decide +kernel
theorem dX11_linesOf_137 : decode cX11_linesOf 137 = .ok (.iinc 2 1, 3) := by decide +kernel
theorem dX11_linesOf_140 : decode cX11_linesOf 140 = .ok (.goto (-119), 3) := by decide +kernel
theorem dX11_linesOf_143 : decode cX11_linesOf 143 = .ok (.return_, 1) := by decide +kernel
theorem dX11_isBetween_0 : decode cX11_isBetween 0 = .ok (.iload_n 2, 1) := by decide +kernel
theorem dX11_isBetween_1 : decode cX11_isBetween 1 = .ok (.iload_n 1, 1) := by decide +kernel
theorem dX11_isBetween_2 : decode cX11_isBetween 2 = .ok (.if_icmp .eq 29, 3) := by decide +kernel
theorem dX11_isBetween_5 : decode cX11_isBetween 5 = .ok (.iload_n 2, 1) := by decide +kernel
theorem dX11_isBetween_6 : decode cX11_isBetween 6 = .ok (.iload_n 3, 1) := by decide +kernel
theorem dX11_isBetween_7 : decode cX11_isBetween 7 = .ok (.if_icmp .eq 24, 3) := by decide +kernel
theorem dX11_isBetween_10 : decode cX11_isBetween 10 = .ok (.iload_n 2, 1) := by decide +kernel
theorem dX11_isBetween_11 : decode cX11_isBetween 11 = .ok (.iload_n 1, 1) := by decide +kernel
theorem dX11_isBetween_12 : decode cX11_isBetween 12 = .ok (.isub, 1) := by decide +kernel
theorem dX11_isBetween_13 : decode cX11_isBetween 13 = .ok (.iload_n 0, 1) := by decide +kernel
theorem dX11_isBetween_14 : decode cX11_isBetween 14 = .ok (.iadd, 1) := by decide +kernel
theorem dX11_isBetween_15 : decode cX11_isBetween 15 = .ok (.iload_n 0, 1) := by decide +kernel
theorem dX11_isBetween_16 : decode cX11_isBetween 16 = .ok (.irem, 1) := by decide +kernel
theorem dX11_isBetween_17 : decode cX11_isBetween 17 = .ok (.iload_n 3, 1) := by decide +kernel
theorem dX11_isBetween_18 : decode cX11_isBetween 18 = .ok (.iload_n 1, 1) := by decide +kernel
theorem dX11_isBetween_19 : decode cX11_isBetween 19 = .ok (.isub, 1) := by decide +kernel
theorem dX11_isBetween_20 : decode cX11_isBetween 20 = .ok (.iload_n 0, 1) := by decide +kernel
theorem dX11_isBetween_21 : decode cX11_isBetween 21 = .ok (.iadd, 1) := by decide +kernel
theorem dX11_isBetween_22 : decode cX11_isBetween 22 = .ok (.iload_n 0, 1) := by decide +kernel
theorem dX11_isBetween_23 : decode cX11_isBetween 23 = .ok (.irem, 1) := by decide +kernel
theorem dX11_isBetween_24 : decode cX11_isBetween 24 = .ok (.if_icmp .ge 7, 3) := by decide +kernel
theorem dX11_isBetween_27 : decode cX11_isBetween 27 = .ok (.iconst 1, 1) := by decide +kernel
theorem dX11_isBetween_28 : decode cX11_isBetween 28 = .ok (.goto 4, 3) := by decide +kernel
theorem dX11_isBetween_31 : decode cX11_isBetween 31 = .ok (.iconst 0, 1) := by decide +kernel
theorem dX11_isBetween_32 : decode cX11_isBetween 32 = .ok (.ireturn, 1) := by decide +kernel
theorem dX11_isCross_0 : decode cX11_isCross 0 = .ok (.iload_n 3, 1) := by decide +kernel
theorem dX11_isCross_1 : decode cX11_isCross 1 = .ok (.iload_n 1, 1) := by decide +kernel
theorem dX11_isCross_2 : decode cX11_isCross 2 = .ok (.if_icmp .eq 20, 3) := by decide +kernel
theorem dX11_isCross_5 : decode cX11_isCross 5 = .ok (.iload_n 3, 1) := by decide +kernel
theorem dX11_isCross_6 : decode cX11_isCross 6 = .ok (.iload_n 2, 1) := by decide +kernel
theorem dX11_isCross_7 : decode cX11_isCross 7 = .ok (.if_icmp .eq 15, 3) := by decide +kernel
theorem dX11_isCross_10 : decode cX11_isCross 10 = .ok (.iload 4, 2) := by decide +kernel
theorem dX11_isCross_12 : decode cX11_isCross 12 = .ok (.iload_n 1, 1) := by decide +kernel
theorem dX11_isCross_13 : decode cX11_isCross 13 = .ok (.if_icmp .eq 9, 3) := by decide +kernel
theorem dX11_isCross_16 : decode cX11_isCross 16 = .ok (.iload 4, 2) := by decide +kernel
theorem dX11_isCross_18 : decode cX11_isCross 18 = .ok (.iload_n 2, 1) := by decide +kernel
theorem dX11_isCross_19 : decode cX11_isCross 19 = .ok (.if_icmp .ne 5, 3) := by decide +kernel
theorem dX11_isCross_22 : decode cX11_isCross 22 = .ok (.iconst 0, 1) := by decide +kernel
theorem dX11_isCross_23 : decode cX11_isCross 23 = .ok (.ireturn, 1) := by decide +kernel
theorem dX11_isCross_24 : decode cX11_isCross 24 = .ok (.iload_n 0, 1) := by decide +kernel
theorem dX11_isCross_25 : decode cX11_isCross 25 = .ok (.iload_n 1, 1) := by decide +kernel
theorem dX11_isCross_26 : decode cX11_isCross 26 = .ok (.iload_n 3, 1) := by decide +kernel
theorem dX11_isCross_27 : decode cX11_isCross 27 = .ok (.iload_n 2, 1) := by decide +kernel
theorem dX11_isCross_28 : decode cX11_isCross 28 = .ok (.invokestatic 167, 3) := by decide +kernel
theorem dX11_isCross_31 : decode cX11_isCross 31 = .ok (.iload_n 0, 1) := by decide +kernel
theorem dX11_isCross_32 : decode cX11_isCross 32 = .ok (.iload_n 1, 1) := by decide +kernel
theorem dX11_isCross_33 : decode cX11_isCross 33 = .ok (.iload 4, 2) := by decide +kernel
theorem dX11_isCross_35 : decode cX11_isCross 35 = .ok (.iload_n 2, 1) := by decide +kernel
theorem dX11_isCross_36 : decode cX11_isCross 36 = .ok (.invokestatic 167, 3) := by decide +kernel
theorem dX11_isCross_39 : decode cX11_isCross 39 = .ok (.if_icmp .eq 7, 3) := by decide +kernel
theorem dX11_isCross_42 : decode cX11_isCross 42 = .ok (.iconst 1, 1) := by decide +kernel
theorem dX11_isCross_43 : decode cX11_isCross 43 = .ok (.goto 4, 3) := by decide +kernel
theorem dX11_isCross_46 : decode cX11_isCross 46 = .ok (.iconst 0, 1) := by decide +kernel
theorem dX11_isCross_47 : decode cX11_isCross 47 = .ok (.ireturn, 1) := by decide +kernel
theorem dX11_listFor_0 : decode cX11_listFor 0 = .ok (.aload_n 0, 1) := by decide +kernel
theorem dX11_listFor_1 : decode cX11_listFor 1 = .ok (.iload_n 1, 1) := by decide +kernel
theorem dX11_listFor_2 : decode cX11_listFor 2 = .ok (.invokevirtual 171, 3) := by decide +kernel
theorem dX11_listFor_5 : decode cX11_listFor 5 = .ok (.aload_n 0, 1) := by decide +kernel
theorem dX11_listFor_6 : decode cX11_listFor 6 = .ok (.getfield 174, 3) := by decide +kernel
theorem dX11_listFor_9 : decode cX11_listFor 9 = .ok (.iload_n 1, 1) := by decide +kernel
theorem dX11_listFor_10 : decode cX11_listFor 10 = .ok (.if_icmp .ne 4, 3) := by decide +kernel
theorem dX11_listFor_13 : decode cX11_listFor 13 = .ok (.return_, 1) := by decide +kernel
theorem dX11_listFor_14 : decode cX11_listFor 14 = .ok (.aload_n 0, 1) := by decide +kernel
theorem dX11_listFor_15 : decode cX11_listFor 15 = .ok (.iload_n 1, 1) := by decide +kernel
theorem dX11_listFor_16 : decode cX11_listFor 16 = .ok (.putfield 174, 3) := by decide +kernel
theorem dX11_listFor_19 : decode cX11_listFor 19 = .ok (.aload_n 0, 1) := by decide +kernel
theorem dX11_listFor_20 : decode cX11_listFor 20 = .ok (.iconst 0, 1) := by decide +kernel
theorem dX11_listFor_21 : decode cX11_listFor 21 = .ok (.putfield 177, 3) := by decide +kernel
theorem dX11_listFor_24 : decode cX11_listFor 24 = .ok (.aload_n 0, 1) := by decide +kernel
theorem dX11_listFor_25 : decode cX11_listFor 25 = .ok (.iload_n 1, 1) := by decide +kernel
theorem dX11_listFor_26 : decode cX11_listFor 26 = .ok (.lconst 0, 1) := by decide +kernel
theorem dX11_listFor_27 : decode cX11_listFor 27 = .ok (.iconst 0, 1) := by decide +kernel
theorem dX11_listFor_28 : decode cX11_listFor 28 = .ok (.iconst 0, 1) := by decide +kernel
theorem dX11_listFor_29 : decode cX11_listFor 29 = .ok (.invokevirtual 180, 3) := by decide +kernel
theorem dX11_listFor_32 : decode cX11_listFor 32 = .ok (.iconst 1, 1) := by decide +kernel
theorem dX11_listFor_33 : decode cX11_listFor 33 = .ok (.istore_n 2, 1) := by decide +kernel
theorem dX11_listFor_34 : decode cX11_listFor 34 = .ok (.iload_n 2, 1) := by decide +kernel
theorem dX11_listFor_35 : decode cX11_listFor 35 = .ok (.aload_n 0, 1) := by decide +kernel
theorem dX11_listFor_36 : decode cX11_listFor 36 = .ok (.getfield 177, 3) := by decide +kernel
theorem dX11_listFor_39 : decode cX11_listFor 39 = .ok (.if_icmp .ge 68, 3) := by decide +kernel
theorem dX11_listFor_42 : decode cX11_listFor 42 = .ok (.aload_n 0, 1) := by decide +kernel
theorem dX11_listFor_43 : decode cX11_listFor 43 = .ok (.getfield 27, 3) := by decide +kernel
theorem dX11_listFor_46 : decode cX11_listFor 46 = .ok (.iload_n 2, 1) := by decide +kernel
theorem dX11_listFor_47 : decode cX11_listFor 47 = .ok (.laload, 1) := by decide +kernel
theorem dX11_listFor_48 : decode cX11_listFor 48 = .ok (.lstore_n 3, 1) := by decide +kernel
theorem dX11_listFor_49 : decode cX11_listFor 49 = .ok (.iload_n 2, 1) := by decide +kernel
theorem dX11_listFor_50 : decode cX11_listFor 50 = .ok (.istore 5, 2) := by decide +kernel
theorem dX11_listFor_52 : decode cX11_listFor 52 = .ok (.iload 5, 2) := by decide +kernel
theorem dX11_listFor_54 : decode cX11_listFor 54 = .ok (.ifCond .le 39, 3) := by decide +kernel
theorem dX11_listFor_57 : decode cX11_listFor 57 = .ok (.aload_n 0, 1) := by decide +kernel
theorem dX11_listFor_58 : decode cX11_listFor 58 = .ok (.getfield 27, 3) := by decide +kernel
theorem dX11_listFor_61 : decode cX11_listFor 61 = .ok (.iload 5, 2) := by decide +kernel
theorem dX11_listFor_63 : decode cX11_listFor 63 = .ok (.iconst 1, 1) := by decide +kernel
theorem dX11_listFor_64 : decode cX11_listFor 64 = .ok (.isub, 1) := by decide +kernel
theorem dX11_listFor_65 : decode cX11_listFor 65 = .ok (.laload, 1) := by decide +kernel
theorem dX11_listFor_66 : decode cX11_listFor 66 = .ok (.lload_n 3, 1) := by decide +kernel
theorem dX11_listFor_67 : decode cX11_listFor 67 = .ok (.lcmp, 1) := by decide +kernel
theorem dX11_listFor_68 : decode cX11_listFor 68 = .ok (.ifCond .le 25, 3) := by decide +kernel
theorem dX11_listFor_71 : decode cX11_listFor 71 = .ok (.aload_n 0, 1) := by decide +kernel
theorem dX11_listFor_72 : decode cX11_listFor 72 = .ok (.getfield 27, 3) := by decide +kernel
theorem dX11_listFor_75 : decode cX11_listFor 75 = .ok (.iload 5, 2) := by decide +kernel
theorem dX11_listFor_77 : decode cX11_listFor 77 = .ok (.aload_n 0, 1) := by decide +kernel
theorem dX11_listFor_78 : decode cX11_listFor 78 = .ok (.getfield 27, 3) := by decide +kernel
theorem dX11_listFor_81 : decode cX11_listFor 81 = .ok (.iload 5, 2) := by decide +kernel
theorem dX11_listFor_83 : decode cX11_listFor 83 = .ok (.iconst 1, 1) := by decide +kernel
theorem dX11_listFor_84 : decode cX11_listFor 84 = .ok (.isub, 1) := by decide +kernel
theorem dX11_listFor_85 : decode cX11_listFor 85 = .ok (.laload, 1) := by decide +kernel
theorem dX11_listFor_86 : decode cX11_listFor 86 = .ok (.lastore, 1) := by decide +kernel
theorem dX11_listFor_87 : decode cX11_listFor 87 = .ok (.iinc 5 (-1), 3) := by decide +kernel
theorem dX11_listFor_90 : decode cX11_listFor 90 = .ok (.goto (-38), 3) := by decide +kernel
theorem dX11_listFor_93 : decode cX11_listFor 93 = .ok (.aload_n 0, 1) := by decide +kernel
theorem dX11_listFor_94 : decode cX11_listFor 94 = .ok (.getfield 27, 3) := by decide +kernel
theorem dX11_listFor_97 : decode cX11_listFor 97 = .ok (.iload 5, 2) := by decide +kernel
theorem dX11_listFor_99 : decode cX11_listFor 99 = .ok (.lload_n 3, 1) := by decide +kernel
theorem dX11_listFor_100 : decode cX11_listFor 100 = .ok (.lastore, 1) := by decide +kernel
theorem dX11_listFor_101 : decode cX11_listFor 101 = .ok (.iinc 2 1, 3) := by decide +kernel
theorem dX11_listFor_104 : decode cX11_listFor 104 = .ok (.goto (-70), 3) := by decide +kernel
theorem dX11_listFor_107 : decode cX11_listFor 107 = .ok (.return_, 1) := by decide +kernel
theorem dX11_grow_0 : decode cX11_grow 0 = .ok (.iload 4, 2) := by decide +kernel
theorem dX11_grow_2 : decode cX11_grow 2 = .ok (.iload_n 1, 1) := by decide +kernel
theorem dX11_grow_3 : decode cX11_grow 3 = .ok (.iconst 3, 1) := by decide +kernel
theorem dX11_grow_4 : decode cX11_grow 4 = .ok (.isub, 1) := by decide +kernel
theorem dX11_grow_5 : decode cX11_grow 5 = .ok (.if_icmp .ne 24, 3) := by decide +kernel
theorem dX11_grow_8 : decode cX11_grow 8 = .ok (.aload_n 0, 1) := by decide +kernel
theorem dX11_grow_9 : decode cX11_grow 9 = .ok (.getfield 27, 3) := by decide +kernel
theorem dX11_grow_12 : decode cX11_grow 12 = .ok (.aload_n 0, 1) := by decide +kernel
theorem dX11_grow_13 : decode cX11_grow 13 = .ok (.getfield 177, 3) := by decide +kernel
theorem dX11_grow_16 : decode cX11_grow 16 = .ok (.lload_n 2, 1) := by decide +kernel
theorem dX11_grow_17 : decode cX11_grow 17 = .ok (.lastore, 1) := by decide +kernel
theorem dX11_grow_18 : decode cX11_grow 18 = .ok (.aload_n 0, 1) := by decide +kernel
theorem dX11_grow_19 : decode cX11_grow 19 = .ok (.dup, 1) := by decide +kernel
theorem dX11_grow_20 : decode cX11_grow 20 = .ok (.getfield 177, 3) := by decide +kernel
theorem dX11_grow_23 : decode cX11_grow 23 = .ok (.iconst 1, 1) := by decide +kernel
theorem dX11_grow_24 : decode cX11_grow 24 = .ok (.iadd, 1) := by decide +kernel
theorem dX11_grow_25 : decode cX11_grow 25 = .ok (.putfield 177, 3) := by decide +kernel
theorem dX11_grow_28 : decode cX11_grow 28 = .ok (.return_, 1) := by decide +kernel
theorem dX11_grow_29 : decode cX11_grow 29 = .ok (.iload 5, 2) := by decide +kernel
theorem dX11_grow_31 : decode cX11_grow 31 = .ok (.istore 6, 2) := by decide +kernel
theorem dX11_grow_33 : decode cX11_grow 33 = .ok (.iload 6, 2) := by decide +kernel
theorem dX11_grow_35 : decode cX11_grow 35 = .ok (.aload_n 0, 1) := by decide +kernel
theorem dX11_grow_36 : decode cX11_grow 36 = .ok (.getfield 161, 3) := by decide +kernel
theorem dX11_grow_39 : decode cX11_grow 39 = .ok (.if_icmp .ge 110, 3) := by decide +kernel
theorem dX11_grow_42 : decode cX11_grow 42 = .ok (.iconst 1, 1) := by decide +kernel
theorem dX11_grow_43 : decode cX11_grow 43 = .ok (.istore 7, 2) := by decide +kernel
theorem dX11_grow_45 : decode cX11_grow 45 = .ok (.iconst 0, 1) := by decide +kernel
theorem dX11_grow_46 : decode cX11_grow 46 = .ok (.istore 8, 2) := by decide +kernel
theorem dX11_grow_48 : decode cX11_grow 48 = .ok (.iload 8, 2) := by decide +kernel
theorem dX11_grow_50 : decode cX11_grow 50 = .ok (.iload 6, 2) := by decide +kernel
theorem dX11_grow_52 : decode cX11_grow 52 = .ok (.if_icmp .ge 67, 3) := by decide +kernel
theorem dX11_grow_55 : decode cX11_grow 55 = .ok (.iload 7, 2) := by decide +kernel
theorem dX11_grow_57 : decode cX11_grow 57 = .ok (.ifCond .eq 62, 3) := by decide +kernel
theorem dX11_grow_60 : decode cX11_grow 60 = .ok (.lload_n 2, 1) := by decide +kernel
theorem dX11_grow_61 : decode cX11_grow 61 = .ok (.iload 8, 2) := by decide +kernel
theorem dX11_grow_63 : decode cX11_grow 63 = .ok (.lshr, 1) := by decide +kernel
theorem dX11_grow_64 : decode cX11_grow 64 = .ok (.lconst 1, 1) := by decide +kernel
theorem dX11_grow_65 : decode cX11_grow 65 = .ok (.land, 1) := by decide +kernel
theorem dX11_grow_66 : decode cX11_grow 66 = .ok (.lconst 0, 1) := by decide +kernel
theorem dX11_grow_67 : decode cX11_grow 67 = .ok (.lcmp, 1) := by decide +kernel
theorem dX11_grow_68 : decode cX11_grow 68 = .ok (.ifCond .eq 38, 3) := by decide +kernel
theorem dX11_grow_71 : decode cX11_grow 71 = .ok (.iload_n 1, 1) := by decide +kernel
theorem dX11_grow_72 : decode cX11_grow 72 = .ok (.aload_n 0, 1) := by decide +kernel
theorem dX11_grow_73 : decode cX11_grow 73 = .ok (.getfield 21, 3) := by decide +kernel
theorem dX11_grow_76 : decode cX11_grow 76 = .ok (.iload 6, 2) := by decide +kernel
theorem dX11_grow_78 : decode cX11_grow 78 = .ok (.iaload, 1) := by decide +kernel
theorem dX11_grow_79 : decode cX11_grow 79 = .ok (.aload_n 0, 1) := by decide +kernel
theorem dX11_grow_80 : decode cX11_grow 80 = .ok (.getfield 24, 3) := by decide +kernel
theorem dX11_grow_83 : decode cX11_grow 83 = .ok (.iload 6, 2) := by decide +kernel
theorem dX11_grow_85 : decode cX11_grow 85 = .ok (.iaload, 1) := by decide +kernel
theorem dX11_grow_86 : decode cX11_grow 86 = .ok (.aload_n 0, 1) := by decide +kernel
theorem dX11_grow_87 : decode cX11_grow 87 = .ok (.getfield 21, 3) := by decide +kernel
theorem dX11_grow_90 : decode cX11_grow 90 = .ok (.iload 8, 2) := by decide +kernel
theorem dX11_grow_92 : decode cX11_grow 92 = .ok (.iaload, 1) := by decide +kernel
theorem dX11_grow_93 : decode cX11_grow 93 = .ok (.aload_n 0, 1) := by decide +kernel
theorem dX11_grow_94 : decode cX11_grow 94 = .ok (.getfield 24, 3) := by decide +kernel
theorem dX11_grow_97 : decode cX11_grow 97 = .ok (.iload 8, 2) := by decide +kernel
theorem dX11_grow_99 : decode cX11_grow 99 = .ok (.iaload, 1) := by decide +kernel
theorem dX11_grow_100 : decode cX11_grow 100 = .ok (.invokestatic 184, 3) := by decide +kernel
theorem dX11_grow_103 : decode cX11_grow 103 = .ok (.ifCond .ne 7, 3) := by decide +kernel
theorem dX11_grow_106 : decode cX11_grow 106 = .ok (.iconst 1, 1) := by decide +kernel
theorem dX11_grow_107 : decode cX11_grow 107 = .ok (.goto 4, 3) := by decide +kernel
theorem dX11_grow_110 : decode cX11_grow 110 = .ok (.iconst 0, 1) := by decide +kernel
theorem dX11_grow_111 : decode cX11_grow 111 = .ok (.istore 7, 2) := by decide +kernel
theorem dX11_grow_113 : decode cX11_grow 113 = .ok (.iinc 8 1, 3) := by decide +kernel
theorem dX11_grow_116 : decode cX11_grow 116 = .ok (.goto (-68), 3) := by decide +kernel
theorem dX11_grow_119 : decode cX11_grow 119 = .ok (.iload 7, 2) := by decide +kernel
theorem dX11_grow_121 : decode cX11_grow 121 = .ok (.ifCond .eq 22, 3) := by decide +kernel
theorem dX11_grow_124 : decode cX11_grow 124 = .ok (.aload_n 0, 1) := by decide +kernel
theorem dX11_grow_125 : decode cX11_grow 125 = .ok (.iload_n 1, 1) := by decide +kernel
theorem dX11_grow_126 : decode cX11_grow 126 = .ok (.lload_n 2, 1) := by decide +kernel
theorem dX11_grow_127 : decode cX11_grow 127 = .ok (.lconst 1, 1) := by decide +kernel
theorem dX11_grow_128 : decode cX11_grow 128 = .ok (.iload 6, 2) := by decide +kernel
theorem dX11_grow_130 : decode cX11_grow 130 = .ok (.lshl, 1) := by decide +kernel
theorem dX11_grow_131 : decode cX11_grow 131 = .ok (.lor, 1) := by decide +kernel
theorem dX11_grow_132 : decode cX11_grow 132 = .ok (.iload 4, 2) := by decide +kernel
theorem dX11_grow_134 : decode cX11_grow 134 = .ok (.iconst 1, 1) := by decide +kernel
theorem dX11_grow_135 : decode cX11_grow 135 = .ok (.iadd, 1) := by decide +kernel
theorem dX11_grow_136 : decode cX11_grow 136 = .ok (.iload 6, 2) := by decide +kernel
theorem dX11_grow_138 : decode cX11_grow 138 = .ok (.iconst 1, 1) := by decide +kernel
theorem dX11_grow_139 : decode cX11_grow 139 = .ok (.iadd, 1) := by decide +kernel
theorem dX11_grow_140 : decode cX11_grow 140 = .ok (.invokevirtual 180, 3) := by decide +kernel
theorem dX11_grow_143 : decode cX11_grow 143 = .ok (.iinc 6 1, 3) := by decide +kernel
theorem dX11_grow_146 : decode cX11_grow 146 = .ok (.goto (-113), 3) := by decide +kernel
theorem dX11_grow_149 : decode cX11_grow 149 = .ok (.return_, 1) := by decide +kernel
theorem dX11_placeOf_0 : decode cX11_placeOf 0 = .ok (.iconst 0, 1) := by decide +kernel
theorem dX11_placeOf_1 : decode cX11_placeOf 1 = .ok (.istore_n 3, 1) := by decide +kernel
theorem dX11_placeOf_2 : decode cX11_placeOf 2 = .ok (.aload_n 0, 1) := by decide +kernel
theorem dX11_placeOf_3 : decode cX11_placeOf 3 = .ok (.getfield 177, 3) := by decide +kernel
theorem dX11_placeOf_6 : decode cX11_placeOf 6 = .ok (.iconst 1, 1) := by decide +kernel
theorem dX11_placeOf_7 : decode cX11_placeOf 7 = .ok (.isub, 1) := by decide +kernel
theorem dX11_placeOf_8 : decode cX11_placeOf 8 = .ok (.istore 4, 2) := by decide +kernel
theorem dX11_placeOf_10 : decode cX11_placeOf 10 = .ok (.iload_n 3, 1) := by decide +kernel
theorem dX11_placeOf_11 : decode cX11_placeOf 11 = .ok (.iload 4, 2) := by decide +kernel
theorem dX11_placeOf_13 : decode cX11_placeOf 13 = .ok (.if_icmp .ge 38, 3) := by decide +kernel
theorem dX11_placeOf_16 : decode cX11_placeOf 16 = .ok (.iload_n 3, 1) := by decide +kernel
theorem dX11_placeOf_17 : decode cX11_placeOf 17 = .ok (.iload 4, 2) := by decide +kernel
theorem dX11_placeOf_19 : decode cX11_placeOf 19 = .ok (.iadd, 1) := by decide +kernel
theorem dX11_placeOf_20 : decode cX11_placeOf 20 = .ok (.iconst 2, 1) := by decide +kernel
theorem dX11_placeOf_21 : decode cX11_placeOf 21 = .ok (.idiv, 1) := by decide +kernel
theorem dX11_placeOf_22 : decode cX11_placeOf 22 = .ok (.istore 5, 2) := by decide +kernel
theorem dX11_placeOf_24 : decode cX11_placeOf 24 = .ok (.aload_n 0, 1) := by decide +kernel
theorem dX11_placeOf_25 : decode cX11_placeOf 25 = .ok (.getfield 27, 3) := by decide +kernel
theorem dX11_placeOf_28 : decode cX11_placeOf 28 = .ok (.iload 5, 2) := by decide +kernel
theorem dX11_placeOf_30 : decode cX11_placeOf 30 = .ok (.laload, 1) := by decide +kernel
theorem dX11_placeOf_31 : decode cX11_placeOf 31 = .ok (.lload_n 1, 1) := by decide +kernel
theorem dX11_placeOf_32 : decode cX11_placeOf 32 = .ok (.lcmp, 1) := by decide +kernel
theorem dX11_placeOf_33 : decode cX11_placeOf 33 = .ok (.ifCond .ge 11, 3) := by decide +kernel
theorem dX11_placeOf_36 : decode cX11_placeOf 36 = .ok (.iload 5, 2) := by decide +kernel
theorem dX11_placeOf_38 : decode cX11_placeOf 38 = .ok (.iconst 1, 1) := by decide +kernel
theorem dX11_placeOf_39 : decode cX11_placeOf 39 = .ok (.iadd, 1) := by decide +kernel
theorem dX11_placeOf_40 : decode cX11_placeOf 40 = .ok (.istore_n 3, 1) := by decide +kernel
theorem dX11_placeOf_41 : decode cX11_placeOf 41 = .ok (.goto 7, 3) := by decide +kernel
theorem dX11_placeOf_44 : decode cX11_placeOf 44 = .ok (.iload 5, 2) := by decide +kernel
theorem dX11_placeOf_46 : decode cX11_placeOf 46 = .ok (.istore 4, 2) := by decide +kernel
theorem dX11_placeOf_48 : decode cX11_placeOf 48 = .ok (.goto (-38), 3) := by decide +kernel
theorem dX11_placeOf_51 : decode cX11_placeOf 51 = .ok (.iload_n 3, 1) := by decide +kernel
theorem dX11_placeOf_52 : decode cX11_placeOf 52 = .ok (.ireturn, 1) := by decide +kernel
theorem dX11_ownNumber_0 : decode cX11_ownNumber 0 = .ok (.aload_n 0, 1) := by decide +kernel
theorem dX11_ownNumber_1 : decode cX11_ownNumber 1 = .ok (.aload_n 0, 1) := by decide +kernel
theorem dX11_ownNumber_2 : decode cX11_ownNumber 2 = .ok (.getfield 98, 3) := by decide +kernel
theorem dX11_ownNumber_5 : decode cX11_ownNumber 5 = .ok (.invokevirtual 101, 3) := by decide +kernel
theorem dX11_ownNumber_8 : decode cX11_ownNumber 8 = .ok (.aload_n 0, 1) := by decide +kernel
theorem dX11_ownNumber_9 : decode cX11_ownNumber 9 = .ok (.aload_n 0, 1) := by decide +kernel
theorem dX11_ownNumber_10 : decode cX11_ownNumber 10 = .ok (.getfield 105, 3) := by decide +kernel
theorem dX11_ownNumber_13 : decode cX11_ownNumber 13 = .ok (.invokevirtual 188, 3) := by decide +kernel
theorem dX11_ownNumber_16 : decode cX11_ownNumber 16 = .ok (.ireturn, 1) := by decide +kernel
theorem dX11_becomes_0 : decode cX11_becomes 0 = .ok (.iload_n 1, 1) := by decide +kernel
theorem dX11_becomes_1 : decode cX11_becomes 1 = .ok (.aload_n 0, 1) := by decide +kernel
theorem dX11_becomes_2 : decode cX11_becomes 2 = .ok (.getfield 98, 3) := by decide +kernel
theorem dX11_becomes_5 : decode cX11_becomes 5 = .ok (.if_icmp .eq 18, 3) := by decide +kernel
theorem dX11_becomes_8 : decode cX11_becomes 8 = .ok (.aload_n 0, 1) := by decide +kernel
theorem dX11_becomes_9 : decode cX11_becomes 9 = .ok (.iconst 0, 1) := by decide +kernel
theorem dX11_becomes_10 : decode cX11_becomes 10 = .ok (.putfield 192, 3) := by decide +kernel
theorem dX11_becomes_13 : decode cX11_becomes 13 = .ok (.aload_n 0, 1) := by decide +kernel
theorem dX11_becomes_14 : decode cX11_becomes 14 = .ok (.iconst 0, 1) := by decide +kernel
theorem dX11_becomes_15 : decode cX11_becomes 15 = .ok (.putfield 195, 3) := by decide +kernel
theorem dX11_becomes_18 : decode cX11_becomes 18 = .ok (.aload_n 0, 1) := by decide +kernel
theorem dX11_becomes_19 : decode cX11_becomes 19 = .ok (.iconst 0, 1) := by decide +kernel
theorem dX11_becomes_20 : decode cX11_becomes 20 = .ok (.putfield 198, 3) := by decide +kernel
theorem dX11_becomes_23 : decode cX11_becomes 23 = .ok (.aload_n 0, 1) := by decide +kernel
theorem dX11_becomes_24 : decode cX11_becomes 24 = .ok (.iload_n 1, 1) := by decide +kernel
theorem dX11_becomes_25 : decode cX11_becomes 25 = .ok (.putfield 98, 3) := by decide +kernel
theorem dX11_becomes_28 : decode cX11_becomes 28 = .ok (.aload_n 0, 1) := by decide +kernel
theorem dX11_becomes_29 : decode cX11_becomes 29 = .ok (.lload_n 2, 1) := by decide +kernel
theorem dX11_becomes_30 : decode cX11_becomes 30 = .ok (.putfield 105, 3) := by decide +kernel
theorem dX11_becomes_33 : decode cX11_becomes 33 = .ok (.return_, 1) := by decide +kernel
theorem dX11_near_0 : decode cX11_near 0 = .ok (.iload 4, 2) := by decide +kernel
theorem dX11_near_2 : decode cX11_near 2 = .ok (.iload 5, 2) := by decide +kernel
theorem dX11_near_4 : decode cX11_near 4 = .ok (.if_icmp .eq 40, 3) := by decide +kernel
theorem dX11_near_7 : decode cX11_near 7 = .ok (.iload_n 1, 1) := by decide +kernel
theorem dX11_near_8 : decode cX11_near 8 = .ok (.iload 4, 2) := by decide +kernel
theorem dX11_near_10 : decode cX11_near 10 = .ok (.iload 5, 2) := by decide +kernel
theorem dX11_near_12 : decode cX11_near 12 = .ok (.invokestatic 154, 3) := by decide +kernel
theorem dX11_near_15 : decode cX11_near 15 = .ok (.ifCond .ne 25, 3) := by decide +kernel
theorem dX11_near_18 : decode cX11_near 18 = .ok (.lload_n 2, 1) := by decide +kernel
theorem dX11_near_19 : decode cX11_near 19 = .ok (.aload_n 0, 1) := by decide +kernel
theorem dX11_near_20 : decode cX11_near 20 = .ok (.getfield 17, 3) := by decide +kernel
theorem dX11_near_23 : decode cX11_near 23 = .ok (.bipush 10, 2) := by decide +kernel
theorem dX11_near_25 : decode cX11_near 25 = .ok (.iload 4, 2) := by decide +kernel
theorem dX11_near_27 : decode cX11_near 27 = .ok (.imul, 1) := by decide +kernel
theorem dX11_near_28 : decode cX11_near 28 = .ok (.iload 5, 2) := by decide +kernel
theorem dX11_near_30 : decode cX11_near 30 = .ok (.iadd, 1) := by decide +kernel
theorem dX11_near_31 : decode cX11_near 31 = .ok (.iaload, 1) := by decide +kernel
theorem dX11_near_32 : decode cX11_near 32 = .ok (.lshr, 1) := by decide +kernel
theorem dX11_near_33 : decode cX11_near 33 = .ok (.lconst 1, 1) := by decide +kernel
theorem dX11_near_34 : decode cX11_near 34 = .ok (.land, 1) := by decide +kernel
theorem dX11_near_35 : decode cX11_near 35 = .ok (.lconst 1, 1) := by decide +kernel
theorem dX11_near_36 : decode cX11_near 36 = .ok (.lcmp, 1) := by decide +kernel
theorem dX11_near_37 : decode cX11_near 37 = .ok (.ifCond .ne 7, 3) := by decide +kernel
theorem dX11_near_40 : decode cX11_near 40 = .ok (.iconst 1, 1) := by decide +kernel
theorem dX11_near_41 : decode cX11_near 41 = .ok (.goto 4, 3) := by decide +kernel
theorem dX11_near_44 : decode cX11_near 44 = .ok (.iconst 0, 1) := by decide +kernel
theorem dX11_near_45 : decode cX11_near 45 = .ok (.ireturn, 1) := by decide +kernel
theorem dX11_readCorner_0 : decode cX11_readCorner 0 = .ok (.aload_n 0, 1) := by decide +kernel
theorem dX11_readCorner_1 : decode cX11_readCorner 1 = .ok (.getfield 128, 3) := by decide +kernel
theorem dX11_readCorner_4 : decode cX11_readCorner 4 = .ok (.iconst 2, 1) := by decide +kernel
theorem dX11_readCorner_5 : decode cX11_readCorner 5 = .ok (.if_icmp .eq 9, 3) := by decide +kernel
theorem dX11_readCorner_8 : decode cX11_readCorner 8 = .ok (.aload_n 0, 1) := by decide +kernel
theorem dX11_readCorner_9 : decode cX11_readCorner 9 = .ok (.iconst 1, 1) := by decide +kernel
theorem dX11_readCorner_10 : decode cX11_readCorner 10 = .ok (.invokevirtual 201, 3) := by decide +kernel
theorem dX11_readCorner_13 : decode cX11_readCorner 13 = .ok (.ireturn, 1) := by decide +kernel
theorem dX11_readCorner_14 : decode cX11_readCorner 14 = .ok (.aload_n 0, 1) := by decide +kernel
theorem dX11_readCorner_15 : decode cX11_readCorner 15 = .ok (.getfield 145, 3) := by decide +kernel
theorem dX11_readCorner_18 : decode cX11_readCorner 18 = .ok (.iconst 0, 1) := by decide +kernel
theorem dX11_readCorner_19 : decode cX11_readCorner 19 = .ok (.aload_n 0, 1) := by decide +kernel
theorem dX11_readCorner_20 : decode cX11_readCorner 20 = .ok (.getfield 204, 3) := by decide +kernel
theorem dX11_readCorner_23 : decode cX11_readCorner 23 = .ok (.iconst 1, 1) := by decide +kernel
theorem dX11_readCorner_24 : decode cX11_readCorner 24 = .ok (.isub, 1) := by decide +kernel
theorem dX11_readCorner_25 : decode cX11_readCorner 25 = .ok (.invokestatic 207, 3) := by decide +kernel
theorem dX11_readCorner_28 : decode cX11_readCorner 28 = .ok (.ifCond .ne 9, 3) := by decide +kernel
theorem dX11_readCorner_31 : decode cX11_readCorner 31 = .ok (.aload_n 0, 1) := by decide +kernel
theorem dX11_readCorner_32 : decode cX11_readCorner 32 = .ok (.iconst 2, 1) := by decide +kernel
theorem dX11_readCorner_33 : decode cX11_readCorner 33 = .ok (.invokevirtual 201, 3) := by decide +kernel
theorem dX11_readCorner_36 : decode cX11_readCorner 36 = .ok (.ireturn, 1) := by decide +kernel
theorem dX11_readCorner_37 : decode cX11_readCorner 37 = .ok (.iconst 1, 1) := by decide +kernel
theorem dX11_readCorner_38 : decode cX11_readCorner 38 = .ok (.ireturn, 1) := by decide +kernel
theorem dX11_readCut_0 : decode cX11_readCut 0 = .ok (.aload_n 0, 1) := by decide +kernel
theorem dX11_readCut_1 : decode cX11_readCut 1 = .ok (.getfield 128, 3) := by decide +kernel
theorem dX11_readCut_4 : decode cX11_readCut 4 = .ok (.iconst 1, 1) := by decide +kernel
theorem dX11_readCut_5 : decode cX11_readCut 5 = .ok (.if_icmp .ne 14, 3) := by decide +kernel
theorem dX11_readCut_8 : decode cX11_readCut 8 = .ok (.aload_n 0, 1) := by decide +kernel
theorem dX11_readCut_9 : decode cX11_readCut 9 = .ok (.getfield 135, 3) := by decide +kernel
theorem dX11_readCut_12 : decode cX11_readCut 12 = .ok (.ldc2_w 210, 3) := by decide +kernel
theorem dX11_readCut_15 : decode cX11_readCut 15 = .ok (.lcmp, 1) := by decide +kernel
theorem dX11_readCut_16 : decode cX11_readCut 16 = .ok (.ifCond .eq 9, 3) := by decide +kernel
theorem dX11_readCut_19 : decode cX11_readCut 19 = .ok (.aload_n 0, 1) := by decide +kernel
theorem dX11_readCut_20 : decode cX11_readCut 20 = .ok (.iconst 1, 1) := by decide +kernel
theorem dX11_readCut_21 : decode cX11_readCut 21 = .ok (.invokevirtual 201, 3) := by decide +kernel
theorem dX11_readCut_24 : decode cX11_readCut 24 = .ok (.ireturn, 1) := by decide +kernel
theorem dX11_readCut_25 : decode cX11_readCut 25 = .ok (.aload_n 0, 1) := by decide +kernel
theorem dX11_readCut_26 : decode cX11_readCut 26 = .ok (.invokevirtual 148, 3) := by decide +kernel
theorem dX11_readCut_29 : decode cX11_readCut 29 = .ok (.aload_n 0, 1) := by decide +kernel
theorem dX11_readCut_30 : decode cX11_readCut 30 = .ok (.getfield 128, 3) := by decide +kernel
theorem dX11_readCut_33 : decode cX11_readCut 33 = .ok (.iconst 2, 1) := by decide +kernel
theorem dX11_readCut_34 : decode cX11_readCut 34 = .ok (.if_icmp .eq 9, 3) := by decide +kernel
theorem dX11_readCut_37 : decode cX11_readCut 37 = .ok (.aload_n 0, 1) := by decide +kernel
theorem dX11_readCut_38 : decode cX11_readCut 38 = .ok (.iconst 1, 1) := by decide +kernel
theorem dX11_readCut_39 : decode cX11_readCut 39 = .ok (.invokevirtual 201, 3) := by decide +kernel
theorem dX11_readCut_42 : decode cX11_readCut 42 = .ok (.ireturn, 1) := by decide +kernel
theorem dX11_readCut_43 : decode cX11_readCut 43 = .ok (.aload_n 0, 1) := by decide +kernel
theorem dX11_readCut_44 : decode cX11_readCut 44 = .ok (.getfield 145, 3) := by decide +kernel
theorem dX11_readCut_47 : decode cX11_readCut 47 = .ok (.iconst 4, 1) := by decide +kernel
theorem dX11_readCut_48 : decode cX11_readCut 48 = .ok (.bipush 9, 2) := by decide +kernel
theorem dX11_readCut_50 : decode cX11_readCut 50 = .ok (.invokestatic 207, 3) := by decide +kernel
theorem dX11_readCut_53 : decode cX11_readCut 53 = .ok (.ifCond .ne 9, 3) := by decide +kernel
theorem dX11_readCut_56 : decode cX11_readCut 56 = .ok (.aload_n 0, 1) := by decide +kernel
theorem dX11_readCut_57 : decode cX11_readCut 57 = .ok (.iconst 2, 1) := by decide +kernel
theorem dX11_readCut_58 : decode cX11_readCut 58 = .ok (.invokevirtual 201, 3) := by decide +kernel
theorem dX11_readCut_61 : decode cX11_readCut 61 = .ok (.ireturn, 1) := by decide +kernel
theorem dX11_readCut_62 : decode cX11_readCut 62 = .ok (.aload_n 0, 1) := by decide +kernel
theorem dX11_readCut_63 : decode cX11_readCut 63 = .ok (.aload_n 0, 1) := by decide +kernel
theorem dX11_readCut_64 : decode cX11_readCut 64 = .ok (.getfield 145, 3) := by decide +kernel
theorem dX11_readCut_67 : decode cX11_readCut 67 = .ok (.putfield 204, 3) := by decide +kernel
theorem dX11_readCut_70 : decode cX11_readCut 70 = .ok (.aload_n 0, 1) := by decide +kernel
theorem dX11_readCut_71 : decode cX11_readCut 71 = .ok (.aload_n 0, 1) := by decide +kernel
theorem dX11_readCut_72 : decode cX11_readCut 72 = .ok (.getfield 204, 3) := by decide +kernel
theorem dX11_readCut_75 : decode cX11_readCut 75 = .ok (.invokevirtual 171, 3) := by decide +kernel
theorem dX11_readCut_78 : decode cX11_readCut 78 = .ok (.aload_n 0, 1) := by decide +kernel
