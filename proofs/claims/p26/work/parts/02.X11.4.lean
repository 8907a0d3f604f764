theorem dX11_ask_14 : decode cX11_ask 14 = .ok (.aload_n 0, 1) := by decide +kernel
theorem dX11_ask_15 : decode cX11_ask 15 = .ok (.iload_n 1, 1) := by decide +kernel
theorem dX11_ask_16 : decode cX11_ask 16 = .ok (.invokevirtual 330, 3) := by decide +kernel
theorem dX11_ask_19 : decode cX11_ask 19 = .ok (.istore_n 2, 1) := by decide +kernel
theorem dX11_ask_20 : decode cX11_ask 20 = .ok (.iconst 0, 1) := by decide +kernel
theorem dX11_ask_21 : decode cX11_ask 21 = .ok (.istore_n 3, 1) := by decide +kernel
theorem dX11_ask_22 : decode cX11_ask 22 = .ok (.iload_n 3, 1) := by decide +kernel
theorem dX11_ask_23 : decode cX11_ask 23 = .ok (.sipush 6400, 3) := by decide +kernel
theorem dX11_ask_26 : decode cX11_ask 26 = .ok (.if_icmp .ge 16, 3) := by decide +kernel
theorem dX11_ask_29 : decode cX11_ask 29 = .ok (.aload_n 0, 1) := by decide +kernel
theorem dX11_ask_30 : decode cX11_ask 30 = .ok (.getfield 95, 3) := by decide +kernel
theorem dX11_ask_33 : decode cX11_ask 33 = .ok (.iload_n 3, 1) := by decide +kernel
theorem dX11_ask_34 : decode cX11_ask 34 = .ok (.iconst 0, 1) := by decide +kernel
theorem dX11_ask_35 : decode cX11_ask 35 = .ok (.iastore, 1) := by decide +kernel
theorem dX11_ask_36 : decode cX11_ask 36 = .ok (.iinc 3 1, 3) := by decide +kernel
theorem dX11_ask_39 : decode cX11_ask 39 = .ok (.goto (-17), 3) := by decide +kernel
theorem dX11_ask_42 : decode cX11_ask 42 = .ok (.iconst 0, 1) := by decide +kernel
theorem dX11_ask_43 : decode cX11_ask 43 = .ok (.istore_n 3, 1) := by decide +kernel
theorem dX11_ask_44 : decode cX11_ask 44 = .ok (.iload_n 3, 1) := by decide +kernel
theorem dX11_ask_45 : decode cX11_ask 45 = .ok (.aload_n 0, 1) := by decide +kernel
theorem dX11_ask_46 : decode cX11_ask 46 = .ok (.getfield 177, 3) := by decide +kernel
theorem dX11_ask_49 : decode cX11_ask 49 = .ok (.if_icmp .ge 104, 3) := by decide +kernel
theorem dX11_ask_52 : decode cX11_ask 52 = .ok (.aload_n 0, 1) := by decide +kernel
theorem dX11_ask_53 : decode cX11_ask 53 = .ok (.getfield 91, 3) := by decide +kernel
theorem dX11_ask_56 : decode cX11_ask 56 = .ok (.iload_n 3, 1) := by decide +kernel
theorem dX11_ask_57 : decode cX11_ask 57 = .ok (.baload, 1) := by decide +kernel
theorem dX11_ask_58 : decode cX11_ask 58 = .ok (.ifCond .ne 6, 3) := by decide +kernel
theorem dX11_ask_61 : decode cX11_ask 61 = .ok (.goto 86, 3) := by decide +kernel
theorem dX11_ask_64 : decode cX11_ask 64 = .ok (.iconst 0, 1) := by decide +kernel
theorem dX11_ask_65 : decode cX11_ask 65 = .ok (.istore 4, 2) := by decide +kernel
theorem dX11_ask_67 : decode cX11_ask 67 = .ok (.iload 4, 2) := by decide +kernel
theorem dX11_ask_69 : decode cX11_ask 69 = .ok (.aload_n 0, 1) := by decide +kernel
theorem dX11_ask_70 : decode cX11_ask 70 = .ok (.getfield 98, 3) := by decide +kernel
theorem dX11_ask_73 : decode cX11_ask 73 = .ok (.if_icmp .ge 74, 3) := by decide +kernel
theorem dX11_ask_76 : decode cX11_ask 76 = .ok (.aload_n 0, 1) := by decide +kernel
theorem dX11_ask_77 : decode cX11_ask 77 = .ok (.aload_n 0, 1) := by decide +kernel
theorem dX11_ask_78 : decode cX11_ask 78 = .ok (.getfield 98, 3) := by decide +kernel
theorem dX11_ask_81 : decode cX11_ask 81 = .ok (.aload_n 0, 1) := by decide +kernel
theorem dX11_ask_82 : decode cX11_ask 82 = .ok (.getfield 27, 3) := by decide +kernel
theorem dX11_ask_85 : decode cX11_ask 85 = .ok (.iload_n 3, 1) := by decide +kernel
theorem dX11_ask_86 : decode cX11_ask 86 = .ok (.laload, 1) := by decide +kernel
theorem dX11_ask_87 : decode cX11_ask 87 = .ok (.iload 4, 2) := by decide +kernel
theorem dX11_ask_89 : decode cX11_ask 89 = .ok (.invokevirtual 240, 3) := by decide +kernel
theorem dX11_ask_92 : decode cX11_ask 92 = .ok (.iload 4, 2) := by decide +kernel
theorem dX11_ask_94 : decode cX11_ask 94 = .ok (.iconst 1, 1) := by decide +kernel
theorem dX11_ask_95 : decode cX11_ask 95 = .ok (.iadd, 1) := by decide +kernel
theorem dX11_ask_96 : decode cX11_ask 96 = .ok (.istore 5, 2) := by decide +kernel
theorem dX11_ask_98 : decode cX11_ask 98 = .ok (.iload 5, 2) := by decide +kernel
theorem dX11_ask_100 : decode cX11_ask 100 = .ok (.aload_n 0, 1) := by decide +kernel
theorem dX11_ask_101 : decode cX11_ask 101 = .ok (.getfield 98, 3) := by decide +kernel
theorem dX11_ask_104 : decode cX11_ask 104 = .ok (.if_icmp .ge 37, 3) := by decide +kernel
theorem dX11_ask_107 : decode cX11_ask 107 = .ok (.aload_n 0, 1) := by decide +kernel
theorem dX11_ask_108 : decode cX11_ask 108 = .ok (.getfield 95, 3) := by decide +kernel
theorem dX11_ask_111 : decode cX11_ask 111 = .ok (.bipush 64, 2) := by decide +kernel
theorem dX11_ask_113 : decode cX11_ask 113 = .ok (.bipush 10, 2) := by decide +kernel
theorem dX11_ask_115 : decode cX11_ask 115 = .ok (.iload 4, 2) := by decide +kernel
theorem dX11_ask_117 : decode cX11_ask 117 = .ok (.imul, 1) := by decide +kernel
theorem dX11_ask_118 : decode cX11_ask 118 = .ok (.iload 5, 2) := by decide +kernel
theorem dX11_ask_120 : decode cX11_ask 120 = .ok (.iadd, 1) := by decide +kernel
theorem dX11_ask_121 : decode cX11_ask 121 = .ok (.imul, 1) := by decide +kernel
theorem dX11_ask_122 : decode cX11_ask 122 = .ok (.aload_n 0, 1) := by decide +kernel
theorem dX11_ask_123 : decode cX11_ask 123 = .ok (.getfield 40, 3) := by decide +kernel
theorem dX11_ask_126 : decode cX11_ask 126 = .ok (.iload 5, 2) := by decide +kernel
theorem dX11_ask_128 : decode cX11_ask 128 = .ok (.iaload, 1) := by decide +kernel
theorem dX11_ask_129 : decode cX11_ask 129 = .ok (.iadd, 1) := by decide +kernel
theorem dX11_ask_130 : decode cX11_ask 130 = .ok (.dup2, 1) := by decide +kernel
theorem dX11_ask_131 : decode cX11_ask 131 = .ok (.iaload, 1) := by decide +kernel
theorem dX11_ask_132 : decode cX11_ask 132 = .ok (.iconst 1, 1) := by decide +kernel
theorem dX11_ask_133 : decode cX11_ask 133 = .ok (.iadd, 1) := by decide +kernel
theorem dX11_ask_134 : decode cX11_ask 134 = .ok (.iastore, 1) := by decide +kernel
theorem dX11_ask_135 : decode cX11_ask 135 = .ok (.iinc 5 1, 3) := by decide +kernel
theorem dX11_ask_138 : decode cX11_ask 138 = .ok (.goto (-40), 3) := by decide +kernel
theorem dX11_ask_141 : decode cX11_ask 141 = .ok (.iinc 4 1, 3) := by decide +kernel
theorem dX11_ask_144 : decode cX11_ask 144 = .ok (.goto (-77), 3) := by decide +kernel
theorem dX11_ask_147 : decode cX11_ask 147 = .ok (.iinc 3 1, 3) := by decide +kernel
theorem dX11_ask_150 : decode cX11_ask 150 = .ok (.goto (-106), 3) := by decide +kernel
theorem dX11_ask_153 : decode cX11_ask 153 = .ok (.iconst (-1), 1) := by decide +kernel
theorem dX11_ask_154 : decode cX11_ask 154 = .ok (.istore_n 3, 1) := by decide +kernel
theorem dX11_ask_155 : decode cX11_ask 155 = .ok (.iload_n 2, 1) := by decide +kernel
theorem dX11_ask_156 : decode cX11_ask 156 = .ok (.istore 4, 2) := by decide +kernel
theorem dX11_ask_158 : decode cX11_ask 158 = .ok (.iconst 0, 1) := by decide +kernel
theorem dX11_ask_159 : decode cX11_ask 159 = .ok (.istore 5, 2) := by decide +kernel
theorem dX11_ask_161 : decode cX11_ask 161 = .ok (.iload 5, 2) := by decide +kernel
theorem dX11_ask_163 : decode cX11_ask 163 = .ok (.aload_n 0, 1) := by decide +kernel
theorem dX11_ask_164 : decode cX11_ask 164 = .ok (.getfield 98, 3) := by decide +kernel
theorem dX11_ask_167 : decode cX11_ask 167 = .ok (.if_icmp .ge 122, 3) := by decide +kernel
theorem dX11_ask_170 : decode cX11_ask 170 = .ok (.iload 5, 2) := by decide +kernel
theorem dX11_ask_172 : decode cX11_ask 172 = .ok (.iconst 1, 1) := by decide +kernel
theorem dX11_ask_173 : decode cX11_ask 173 = .ok (.iadd, 1) := by decide +kernel
theorem dX11_ask_174 : decode cX11_ask 174 = .ok (.istore 6, 2) := by decide +kernel
theorem dX11_ask_176 : decode cX11_ask 176 = .ok (.iload 6, 2) := by decide +kernel
theorem dX11_ask_178 : decode cX11_ask 178 = .ok (.aload_n 0, 1) := by decide +kernel
theorem dX11_ask_179 : decode cX11_ask 179 = .ok (.getfield 98, 3) := by decide +kernel
theorem dX11_ask_182 : decode cX11_ask 182 = .ok (.if_icmp .ge 101, 3) := by decide +kernel
theorem dX11_ask_185 : decode cX11_ask 185 = .ok (.iconst 0, 1) := by decide +kernel
theorem dX11_ask_186 : decode cX11_ask 186 = .ok (.istore 7, 2) := by decide +kernel
theorem dX11_ask_188 : decode cX11_ask 188 = .ok (.iconst 0, 1) := by decide +kernel
theorem dX11_ask_189 : decode cX11_ask 189 = .ok (.istore 8, 2) := by decide +kernel
theorem dX11_ask_191 : decode cX11_ask 191 = .ok (.iload 8, 2) := by decide +kernel
theorem dX11_ask_193 : decode cX11_ask 193 = .ok (.bipush 64, 2) := by decide +kernel
theorem dX11_ask_195 : decode cX11_ask 195 = .ok (.if_icmp .ge 59, 3) := by decide +kernel
theorem dX11_ask_198 : decode cX11_ask 198 = .ok (.aload_n 0, 1) := by decide +kernel
theorem dX11_ask_199 : decode cX11_ask 199 = .ok (.getfield 95, 3) := by decide +kernel
theorem dX11_ask_202 : decode cX11_ask 202 = .ok (.bipush 64, 2) := by decide +kernel
theorem dX11_ask_204 : decode cX11_ask 204 = .ok (.bipush 10, 2) := by decide +kernel
theorem dX11_ask_206 : decode cX11_ask 206 = .ok (.iload 5, 2) := by decide +kernel
theorem dX11_ask_208 : decode cX11_ask 208 = .ok (.imul, 1) := by decide +kernel
theorem dX11_ask_209 : decode cX11_ask 209 = .ok (.iload 6, 2) := by decide +kernel
theorem dX11_ask_211 : decode cX11_ask 211 = .ok (.iadd, 1) := by decide +kernel
theorem dX11_ask_212 : decode cX11_ask 212 = .ok (.imul, 1) := by decide +kernel
theorem dX11_ask_213 : decode cX11_ask 213 = .ok (.iload 8, 2) := by decide +kernel
theorem dX11_ask_215 : decode cX11_ask 215 = .ok (.iadd, 1) := by decide +kernel
theorem dX11_ask_216 : decode cX11_ask 216 = .ok (.iaload, 1) := by decide +kernel
theorem dX11_ask_217 : decode cX11_ask 217 = .ok (.iload 7, 2) := by decide +kernel
theorem dX11_ask_219 : decode cX11_ask 219 = .ok (.if_icmp .le 25, 3) := by decide +kernel
theorem dX11_ask_222 : decode cX11_ask 222 = .ok (.aload_n 0, 1) := by decide +kernel
theorem dX11_ask_223 : decode cX11_ask 223 = .ok (.getfield 95, 3) := by decide +kernel
theorem dX11_ask_226 : decode cX11_ask 226 = .ok (.bipush 64, 2) := by decide +kernel
theorem dX11_ask_228 : decode cX11_ask 228 = .ok (.bipush 10, 2) := by decide +kernel
theorem dX11_ask_230 : decode cX11_ask 230 = .ok (.iload 5, 2) := by decide +kernel
theorem dX11_ask_232 : decode cX11_ask 232 = .ok (.imul, 1) := by decide +kernel
theorem dX11_ask_233 : decode cX11_ask 233 = .ok (.iload 6, 2) := by decide +kernel
theorem dX11_ask_235 : decode cX11_ask 235 = .ok (.iadd, 1) := by decide +kernel
theorem dX11_ask_236 : decode cX11_ask 236 = .ok (.imul, 1) := by decide +kernel
theorem dX11_ask_237 : decode cX11_ask 237 = .ok (.iload 8, 2) := by decide +kernel
theorem dX11_ask_239 : decode cX11_ask 239 = .ok (.iadd, 1) := by decide +kernel
theorem dX11_ask_240 : decode cX11_ask 240 = .ok (.iaload, 1) := by decide +kernel
theorem dX11_ask_241 : decode cX11_ask 241 = .ok (.goto 5, 3) := by decide +kernel
theorem dX11_ask_244 : decode cX11_ask 244 = .ok (.iload 7, 2) := by decide +kernel
theorem dX11_ask_246 : decode cX11_ask 246 = .ok (.istore 7, 2) := by decide +kernel
theorem dX11_ask_248 : decode cX11_ask 248 = .ok (.iinc 8 1, 3) := by decide +kernel
theorem dX11_ask_251 : decode cX11_ask 251 = .ok (.goto (-60), 3) := by decide +kernel
theorem dX11_ask_254 : decode cX11_ask 254 = .ok (.iload 7, 2) := by decide +kernel
theorem dX11_ask_256 : decode cX11_ask 256 = .ok (.iload 4, 2) := by decide +kernel
theorem dX11_ask_258 : decode cX11_ask 258 = .ok (.if_icmp .lt 6, 3) := by decide +kernel
theorem dX11_ask_261 : decode cX11_ask 261 = .ok (.goto 16, 3) := by decide +kernel
theorem dX11_ask_264 : decode cX11_ask 264 = .ok (.iload 7, 2) := by decide +kernel
theorem dX11_ask_266 : decode cX11_ask 266 = .ok (.istore 4, 2) := by decide +kernel
theorem dX11_ask_268 : decode cX11_ask 268 = .ok (.bipush 16, 2) := by decide +kernel
theorem dX11_ask_270 : decode cX11_ask 270 = .ok (.iload 5, 2) := by decide +kernel
theorem dX11_ask_272 : decode cX11_ask 272 = .ok (.imul, 1) := by decide +kernel
theorem dX11_ask_273 : decode cX11_ask 273 = .ok (.iload 6, 2) := by decide +kernel
theorem dX11_ask_275 : decode cX11_ask 275 = .ok (.iadd, 1) := by decide +kernel
theorem dX11_ask_276 : decode cX11_ask 276 = .ok (.istore_n 3, 1) := by decide +kernel
theorem dX11_ask_277 : decode cX11_ask 277 = .ok (.iinc 6 1, 3) := by decide +kernel
theorem dX11_ask_280 : decode cX11_ask 280 = .ok (.goto (-104), 3) := by decide +kernel
theorem dX11_ask_283 : decode cX11_ask 283 = .ok (.iinc 5 1, 3) := by decide +kernel
theorem dX11_ask_286 : decode cX11_ask 286 = .ok (.goto (-125), 3) := by decide +kernel
theorem dX11_ask_289 : decode cX11_ask 289 = .ok (.iload_n 3, 1) := by decide +kernel
theorem dX11_ask_290 : decode cX11_ask 290 = .ok (.ireturn, 1) := by decide +kernel
theorem dX11_count_0 : decode cX11_count 0 = .ok (.iload_n 1, 1) := by decide +kernel
theorem dX11_count_1 : decode cX11_count 1 = .ok (.ifCond .ne 10, 3) := by decide +kernel
theorem dX11_count_4 : decode cX11_count 4 = .ok (.aload_n 0, 1) := by decide +kernel
theorem dX11_count_5 : decode cX11_count 5 = .ok (.getfield 192, 3) := by decide +kernel
theorem dX11_count_8 : decode cX11_count 8 = .ok (.goto 28, 3) := by decide +kernel
theorem dX11_count_11 : decode cX11_count 11 = .ok (.iload_n 1, 1) := by decide +kernel
theorem dX11_count_12 : decode cX11_count 12 = .ok (.iconst 1, 1) := by decide +kernel
theorem dX11_count_13 : decode cX11_count 13 = .ok (.if_icmp .ne 10, 3) := by decide +kernel
theorem dX11_count_16 : decode cX11_count 16 = .ok (.aload_n 0, 1) := by decide +kernel
theorem dX11_count_17 : decode cX11_count 17 = .ok (.getfield 195, 3) := by decide +kernel
theorem dX11_count_20 : decode cX11_count 20 = .ok (.goto 16, 3) := by decide +kernel
theorem dX11_count_23 : decode cX11_count 23 = .ok (.iload_n 1, 1) := by decide +kernel
theorem dX11_count_24 : decode cX11_count 24 = .ok (.iconst 2, 1) := by decide +kernel
theorem dX11_count_25 : decode cX11_count 25 = .ok (.if_icmp .ne 10, 3) := by decide +kernel
theorem dX11_count_28 : decode cX11_count 28 = .ok (.aload_n 0, 1) := by decide +kernel
theorem dX11_count_29 : decode cX11_count 29 = .ok (.getfield 112, 3) := by decide +kernel
theorem dX11_count_32 : decode cX11_count 32 = .ok (.goto 4, 3) := by decide +kernel
theorem dX11_count_35 : decode cX11_count 35 = .ok (.iconst (-1), 1) := by decide +kernel
theorem dX11_count_36 : decode cX11_count 36 = .ok (.ireturn, 1) := by decide +kernel
