theorem dX11_readCut_79 : decode cX11_readCut 79 = .ok (.lconst 0, 1) := by decide +kernel
theorem dX11_readCut_80 : decode cX11_readCut 80 = .ok (.putfield 212, 3) := by decide +kernel
theorem dX11_readCut_83 : decode cX11_readCut 83 = .ok (.iconst 0, 1) := by decide +kernel
theorem dX11_readCut_84 : decode cX11_readCut 84 = .ok (.istore_n 1, 1) := by decide +kernel
theorem dX11_readCut_85 : decode cX11_readCut 85 = .ok (.aload_n 0, 1) := by decide +kernel
theorem dX11_readCut_86 : decode cX11_readCut 86 = .ok (.invokevirtual 148, 3) := by decide +kernel
theorem dX11_readCut_89 : decode cX11_readCut 89 = .ok (.aload_n 0, 1) := by decide +kernel
theorem dX11_readCut_90 : decode cX11_readCut 90 = .ok (.getfield 128, 3) := by decide +kernel
theorem dX11_readCut_93 : decode cX11_readCut 93 = .ok (.iconst 3, 1) := by decide +kernel
theorem dX11_readCut_94 : decode cX11_readCut 94 = .ok (.if_icmp .eq 9, 3) := by decide +kernel
theorem dX11_readCut_97 : decode cX11_readCut 97 = .ok (.aload_n 0, 1) := by decide +kernel
theorem dX11_readCut_98 : decode cX11_readCut 98 = .ok (.iconst 1, 1) := by decide +kernel
theorem dX11_readCut_99 : decode cX11_readCut 99 = .ok (.invokevirtual 201, 3) := by decide +kernel
theorem dX11_readCut_102 : decode cX11_readCut 102 = .ok (.ireturn, 1) := by decide +kernel
theorem dX11_readCut_103 : decode cX11_readCut 103 = .ok (.aload_n 0, 1) := by decide +kernel
theorem dX11_readCut_104 : decode cX11_readCut 104 = .ok (.invokevirtual 148, 3) := by decide +kernel
theorem dX11_readCut_107 : decode cX11_readCut 107 = .ok (.aload_n 0, 1) := by decide +kernel
theorem dX11_readCut_108 : decode cX11_readCut 108 = .ok (.getfield 128, 3) := by decide +kernel
theorem dX11_readCut_111 : decode cX11_readCut 111 = .ok (.iconst 4, 1) := by decide +kernel
theorem dX11_readCut_112 : decode cX11_readCut 112 = .ok (.if_icmp .eq 199, 3) := by decide +kernel
theorem dX11_readCut_115 : decode cX11_readCut 115 = .ok (.aload_n 0, 1) := by decide +kernel
theorem dX11_readCut_116 : decode cX11_readCut 116 = .ok (.invokevirtual 215, 3) := by decide +kernel
theorem dX11_readCut_119 : decode cX11_readCut 119 = .ok (.ifCond .ne 5, 3) := by decide +kernel
theorem dX11_readCut_122 : decode cX11_readCut 122 = .ok (.iconst 0, 1) := by decide +kernel
theorem dX11_readCut_123 : decode cX11_readCut 123 = .ok (.ireturn, 1) := by decide +kernel
theorem dX11_readCut_124 : decode cX11_readCut 124 = .ok (.aload_n 0, 1) := by decide +kernel
theorem dX11_readCut_125 : decode cX11_readCut 125 = .ok (.getfield 145, 3) := by decide +kernel
theorem dX11_readCut_128 : decode cX11_readCut 128 = .ok (.istore_n 2, 1) := by decide +kernel
theorem dX11_readCut_129 : decode cX11_readCut 129 = .ok (.aload_n 0, 1) := by decide +kernel
theorem dX11_readCut_130 : decode cX11_readCut 130 = .ok (.invokevirtual 148, 3) := by decide +kernel
theorem dX11_readCut_133 : decode cX11_readCut 133 = .ok (.aload_n 0, 1) := by decide +kernel
theorem dX11_readCut_134 : decode cX11_readCut 134 = .ok (.invokevirtual 215, 3) := by decide +kernel
theorem dX11_readCut_137 : decode cX11_readCut 137 = .ok (.ifCond .ne 5, 3) := by decide +kernel
theorem dX11_readCut_140 : decode cX11_readCut 140 = .ok (.iconst 0, 1) := by decide +kernel
theorem dX11_readCut_141 : decode cX11_readCut 141 = .ok (.ireturn, 1) := by decide +kernel
theorem dX11_readCut_142 : decode cX11_readCut 142 = .ok (.aload_n 0, 1) := by decide +kernel
theorem dX11_readCut_143 : decode cX11_readCut 143 = .ok (.getfield 145, 3) := by decide +kernel
theorem dX11_readCut_146 : decode cX11_readCut 146 = .ok (.istore_n 3, 1) := by decide +kernel
theorem dX11_readCut_147 : decode cX11_readCut 147 = .ok (.aload_n 0, 1) := by decide +kernel
theorem dX11_readCut_148 : decode cX11_readCut 148 = .ok (.getfield 204, 3) := by decide +kernel
theorem dX11_readCut_151 : decode cX11_readCut 151 = .ok (.iload_n 2, 1) := by decide +kernel
theorem dX11_readCut_152 : decode cX11_readCut 152 = .ok (.iload_n 3, 1) := by decide +kernel
theorem dX11_readCut_153 : decode cX11_readCut 153 = .ok (.invokestatic 164, 3) := by decide +kernel
theorem dX11_readCut_156 : decode cX11_readCut 156 = .ok (.ifCond .eq 99, 3) := by decide +kernel
theorem dX11_readCut_159 : decode cX11_readCut 159 = .ok (.aload_n 0, 1) := by decide +kernel
theorem dX11_readCut_160 : decode cX11_readCut 160 = .ok (.getfield 212, 3) := by decide +kernel
theorem dX11_readCut_163 : decode cX11_readCut 163 = .ok (.aload_n 0, 1) := by decide +kernel
theorem dX11_readCut_164 : decode cX11_readCut 164 = .ok (.getfield 17, 3) := by decide +kernel
theorem dX11_readCut_167 : decode cX11_readCut 167 = .ok (.bipush 10, 2) := by decide +kernel
theorem dX11_readCut_169 : decode cX11_readCut 169 = .ok (.iload_n 2, 1) := by decide +kernel
theorem dX11_readCut_170 : decode cX11_readCut 170 = .ok (.imul, 1) := by decide +kernel
theorem dX11_readCut_171 : decode cX11_readCut 171 = .ok (.iload_n 3, 1) := by decide +kernel
theorem dX11_readCut_172 : decode cX11_readCut 172 = .ok (.iadd, 1) := by decide +kernel
theorem dX11_readCut_173 : decode cX11_readCut 173 = .ok (.iaload, 1) := by decide +kernel
theorem dX11_readCut_174 : decode cX11_readCut 174 = .ok (.lshr, 1) := by decide +kernel
theorem dX11_readCut_175 : decode cX11_readCut 175 = .ok (.lconst 1, 1) := by decide +kernel
theorem dX11_readCut_176 : decode cX11_readCut 176 = .ok (.land, 1) := by decide +kernel
theorem dX11_readCut_177 : decode cX11_readCut 177 = .ok (.lconst 1, 1) := by decide +kernel
theorem dX11_readCut_178 : decode cX11_readCut 178 = .ok (.lcmp, 1) := by decide +kernel
theorem dX11_readCut_179 : decode cX11_readCut 179 = .ok (.ifCond .ne 9, 3) := by decide +kernel
theorem dX11_readCut_182 : decode cX11_readCut 182 = .ok (.aload_n 0, 1) := by decide +kernel
theorem dX11_readCut_183 : decode cX11_readCut 183 = .ok (.iconst 3, 1) := by decide +kernel
theorem dX11_readCut_184 : decode cX11_readCut 184 = .ok (.invokevirtual 201, 3) := by decide +kernel
theorem dX11_readCut_187 : decode cX11_readCut 187 = .ok (.ireturn, 1) := by decide +kernel
theorem dX11_readCut_188 : decode cX11_readCut 188 = .ok (.iconst 0, 1) := by decide +kernel
theorem dX11_readCut_189 : decode cX11_readCut 189 = .ok (.istore 4, 2) := by decide +kernel
theorem dX11_readCut_191 : decode cX11_readCut 191 = .ok (.iload 4, 2) := by decide +kernel
theorem dX11_readCut_193 : decode cX11_readCut 193 = .ok (.aload_n 0, 1) := by decide +kernel
theorem dX11_readCut_194 : decode cX11_readCut 194 = .ok (.getfield 161, 3) := by decide +kernel
theorem dX11_readCut_197 : decode cX11_readCut 197 = .ok (.if_icmp .ge 55, 3) := by decide +kernel
theorem dX11_readCut_200 : decode cX11_readCut 200 = .ok (.aload_n 0, 1) := by decide +kernel
theorem dX11_readCut_201 : decode cX11_readCut 201 = .ok (.getfield 212, 3) := by decide +kernel
theorem dX11_readCut_204 : decode cX11_readCut 204 = .ok (.iload 4, 2) := by decide +kernel
theorem dX11_readCut_206 : decode cX11_readCut 206 = .ok (.lshr, 1) := by decide +kernel
theorem dX11_readCut_207 : decode cX11_readCut 207 = .ok (.lconst 1, 1) := by decide +kernel
theorem dX11_readCut_208 : decode cX11_readCut 208 = .ok (.land, 1) := by decide +kernel
theorem dX11_readCut_209 : decode cX11_readCut 209 = .ok (.lconst 1, 1) := by decide +kernel
theorem dX11_readCut_210 : decode cX11_readCut 210 = .ok (.lcmp, 1) := by decide +kernel
theorem dX11_readCut_211 : decode cX11_readCut 211 = .ok (.ifCond .ne 35, 3) := by decide +kernel
theorem dX11_readCut_214 : decode cX11_readCut 214 = .ok (.aload_n 0, 1) := by decide +kernel
theorem dX11_readCut_215 : decode cX11_readCut 215 = .ok (.getfield 204, 3) := by decide +kernel
theorem dX11_readCut_218 : decode cX11_readCut 218 = .ok (.iload_n 2, 1) := by decide +kernel
theorem dX11_readCut_219 : decode cX11_readCut 219 = .ok (.iload_n 3, 1) := by decide +kernel
theorem dX11_readCut_220 : decode cX11_readCut 220 = .ok (.aload_n 0, 1) := by decide +kernel
theorem dX11_readCut_221 : decode cX11_readCut 221 = .ok (.getfield 21, 3) := by decide +kernel
theorem dX11_readCut_224 : decode cX11_readCut 224 = .ok (.iload 4, 2) := by decide +kernel
theorem dX11_readCut_226 : decode cX11_readCut 226 = .ok (.iaload, 1) := by decide +kernel
theorem dX11_readCut_227 : decode cX11_readCut 227 = .ok (.aload_n 0, 1) := by decide +kernel
theorem dX11_readCut_228 : decode cX11_readCut 228 = .ok (.getfield 24, 3) := by decide +kernel
theorem dX11_readCut_231 : decode cX11_readCut 231 = .ok (.iload 4, 2) := by decide +kernel
theorem dX11_readCut_233 : decode cX11_readCut 233 = .ok (.iaload, 1) := by decide +kernel
theorem dX11_readCut_234 : decode cX11_readCut 234 = .ok (.invokestatic 184, 3) := by decide +kernel
theorem dX11_readCut_237 : decode cX11_readCut 237 = .ok (.ifCond .eq 9, 3) := by decide +kernel
theorem dX11_readCut_240 : decode cX11_readCut 240 = .ok (.aload_n 0, 1) := by decide +kernel
theorem dX11_readCut_241 : decode cX11_readCut 241 = .ok (.iconst 5, 1) := by decide +kernel
theorem dX11_readCut_242 : decode cX11_readCut 242 = .ok (.invokevirtual 201, 3) := by decide +kernel
theorem dX11_readCut_245 : decode cX11_readCut 245 = .ok (.ireturn, 1) := by decide +kernel
theorem dX11_readCut_246 : decode cX11_readCut 246 = .ok (.iinc 4 1, 3) := by decide +kernel
theorem dX11_readCut_249 : decode cX11_readCut 249 = .ok (.goto (-58), 3) := by decide +kernel
theorem dX11_readCut_252 : decode cX11_readCut 252 = .ok (.goto 9, 3) := by decide +kernel
theorem dX11_readCut_255 : decode cX11_readCut 255 = .ok (.aload_n 0, 1) := by decide +kernel
theorem dX11_readCut_256 : decode cX11_readCut 256 = .ok (.iconst 4, 1) := by decide +kernel
theorem dX11_readCut_257 : decode cX11_readCut 257 = .ok (.invokevirtual 201, 3) := by decide +kernel
theorem dX11_readCut_260 : decode cX11_readCut 260 = .ok (.ireturn, 1) := by decide +kernel
theorem dX11_readCut_261 : decode cX11_readCut 261 = .ok (.aload_n 0, 1) := by decide +kernel
theorem dX11_readCut_262 : decode cX11_readCut 262 = .ok (.dup, 1) := by decide +kernel
theorem dX11_readCut_263 : decode cX11_readCut 263 = .ok (.getfield 212, 3) := by decide +kernel
theorem dX11_readCut_266 : decode cX11_readCut 266 = .ok (.lconst 1, 1) := by decide +kernel
theorem dX11_readCut_267 : decode cX11_readCut 267 = .ok (.aload_n 0, 1) := by decide +kernel
theorem dX11_readCut_268 : decode cX11_readCut 268 = .ok (.getfield 17, 3) := by decide +kernel
theorem dX11_readCut_271 : decode cX11_readCut 271 = .ok (.bipush 10, 2) := by decide +kernel
theorem dX11_readCut_273 : decode cX11_readCut 273 = .ok (.iload_n 2, 1) := by decide +kernel
theorem dX11_readCut_274 : decode cX11_readCut 274 = .ok (.imul, 1) := by decide +kernel
theorem dX11_readCut_275 : decode cX11_readCut 275 = .ok (.iload_n 3, 1) := by decide +kernel
theorem dX11_readCut_276 : decode cX11_readCut 276 = .ok (.iadd, 1) := by decide +kernel
theorem dX11_readCut_277 : decode cX11_readCut 277 = .ok (.iaload, 1) := by decide +kernel
theorem dX11_readCut_278 : decode cX11_readCut 278 = .ok (.lshl, 1) := by decide +kernel
theorem dX11_readCut_279 : decode cX11_readCut 279 = .ok (.lor, 1) := by decide +kernel
theorem dX11_readCut_280 : decode cX11_readCut 280 = .ok (.putfield 212, 3) := by decide +kernel
theorem dX11_readCut_283 : decode cX11_readCut 283 = .ok (.iinc 1 1, 3) := by decide +kernel
theorem dX11_readCut_286 : decode cX11_readCut 286 = .ok (.aload_n 0, 1) := by decide +kernel
theorem dX11_readCut_287 : decode cX11_readCut 287 = .ok (.invokevirtual 148, 3) := by decide +kernel
theorem dX11_readCut_290 : decode cX11_readCut 290 = .ok (.aload_n 0, 1) := by decide +kernel
theorem dX11_readCut_291 : decode cX11_readCut 291 = .ok (.getfield 128, 3) := by decide +kernel
theorem dX11_readCut_294 : decode cX11_readCut 294 = .ok (.iconst 3, 1) := by decide +kernel
theorem dX11_readCut_295 : decode cX11_readCut 295 = .ok (.if_icmp .eq 9, 3) := by decide +kernel
theorem dX11_readCut_298 : decode cX11_readCut 298 = .ok (.aload_n 0, 1) := by decide +kernel
theorem dX11_readCut_299 : decode cX11_readCut 299 = .ok (.iconst 1, 1) := by decide +kernel
theorem dX11_readCut_300 : decode cX11_readCut 300 = .ok (.invokevirtual 201, 3) := by decide +kernel
theorem dX11_readCut_303 : decode cX11_readCut 303 = .ok (.ireturn, 1) := by decide +kernel
theorem dX11_readCut_304 : decode cX11_readCut 304 = .ok (.aload_n 0, 1) := by decide +kernel
theorem dX11_readCut_305 : decode cX11_readCut 305 = .ok (.invokevirtual 148, 3) := by decide +kernel
theorem dX11_readCut_308 : decode cX11_readCut 308 = .ok (.goto (-201), 3) := by decide +kernel
theorem dX11_readCut_311 : decode cX11_readCut 311 = .ok (.iload_n 1, 1) := by decide +kernel
theorem dX11_readCut_312 : decode cX11_readCut 312 = .ok (.aload_n 0, 1) := by decide +kernel
theorem dX11_readCut_313 : decode cX11_readCut 313 = .ok (.getfield 204, 3) := by decide +kernel
theorem dX11_readCut_316 : decode cX11_readCut 316 = .ok (.iconst 3, 1) := by decide +kernel
theorem dX11_readCut_317 : decode cX11_readCut 317 = .ok (.isub, 1) := by decide +kernel
theorem dX11_readCut_318 : decode cX11_readCut 318 = .ok (.if_icmp .eq 12, 3) := by decide +kernel
theorem dX11_readCut_321 : decode cX11_readCut 321 = .ok (.aload_n 0, 1) := by decide +kernel
theorem dX11_readCut_322 : decode cX11_readCut 322 = .ok (.bipush 6, 2) := by decide +kernel
theorem dX11_readCut_324 : decode cX11_readCut 324 = .ok (.invokevirtual 201, 3) := by decide +kernel
theorem dX11_readCut_327 : decode cX11_readCut 327 = .ok (.ifCond .eq 7, 3) := by decide +kernel
theorem dX11_readCut_330 : decode cX11_readCut 330 = .ok (.iconst 1, 1) := by decide +kernel
theorem dX11_readCut_331 : decode cX11_readCut 331 = .ok (.goto 4, 3) := by decide +kernel
theorem dX11_readCut_334 : decode cX11_readCut 334 = .ok (.iconst 0, 1) := by decide +kernel
theorem dX11_readCut_335 : decode cX11_readCut 335 = .ok (.ireturn, 1) := by decide +kernel
theorem dX11_cut_0 : decode cX11_cut 0 = .ok (.aload_n 0, 1) := by decide +kernel
theorem dX11_cut_1 : decode cX11_cut 1 = .ok (.invokevirtual 219, 3) := by decide +kernel
theorem dX11_cut_4 : decode cX11_cut 4 = .ok (.aload_n 0, 1) := by decide +kernel
theorem dX11_cut_5 : decode cX11_cut 5 = .ok (.iconst 0, 1) := by decide +kernel
theorem dX11_cut_6 : decode cX11_cut 6 = .ok (.putfield 151, 3) := by decide +kernel
theorem dX11_cut_9 : decode cX11_cut 9 = .ok (.aload_n 0, 1) := by decide +kernel
theorem dX11_cut_10 : decode cX11_cut 10 = .ok (.iconst (-1), 1) := by decide +kernel
theorem dX11_cut_11 : decode cX11_cut 11 = .ok (.putfield 13, 3) := by decide +kernel
theorem dX11_cut_14 : decode cX11_cut 14 = .ok (.aload_n 0, 1) := by decide +kernel
theorem dX11_cut_15 : decode cX11_cut 15 = .ok (.invokevirtual 222, 3) := by decide +kernel
theorem dX11_cut_18 : decode cX11_cut 18 = .ok (.ifCond .ne 5, 3) := by decide +kernel
theorem dX11_cut_21 : decode cX11_cut 21 = .ok (.iconst (-1), 1) := by decide +kernel
theorem dX11_cut_22 : decode cX11_cut 22 = .ok (.ireturn, 1) := by decide +kernel
theorem dX11_cut_23 : decode cX11_cut 23 = .ok (.aload_n 0, 1) := by decide +kernel
theorem dX11_cut_24 : decode cX11_cut 24 = .ok (.aload_n 0, 1) := by decide +kernel
theorem dX11_cut_25 : decode cX11_cut 25 = .ok (.getfield 204, 3) := by decide +kernel
theorem dX11_cut_28 : decode cX11_cut 28 = .ok (.aload_n 0, 1) := by decide +kernel
theorem dX11_cut_29 : decode cX11_cut 29 = .ok (.getfield 212, 3) := by decide +kernel
theorem dX11_cut_32 : decode cX11_cut 32 = .ok (.invokevirtual 225, 3) := by decide +kernel
theorem dX11_cut_35 : decode cX11_cut 35 = .ok (.aload_n 0, 1) := by decide +kernel
theorem dX11_cut_36 : decode cX11_cut 36 = .ok (.invokevirtual 229, 3) := by decide +kernel
theorem dX11_cut_39 : decode cX11_cut 39 = .ok (.ireturn, 1) := by decide +kernel
theorem dX11_take_0 : decode cX11_take 0 = .ok (.iload_n 1, 1) := by decide +kernel
theorem dX11_take_1 : decode cX11_take 1 = .ok (.iconst 4, 1) := by decide +kernel
theorem dX11_take_2 : decode cX11_take 2 = .ok (.bipush 9, 2) := by decide +kernel
theorem dX11_take_4 : decode cX11_take 4 = .ok (.invokestatic 207, 3) := by decide +kernel
theorem dX11_take_7 : decode cX11_take 7 = .ok (.ifCond .eq 7, 3) := by decide +kernel
theorem dX11_take_10 : decode cX11_take 10 = .ok (.iload_n 2, 1) := by decide +kernel
theorem dX11_take_11 : decode cX11_take 11 = .ok (.ifCond .ge 6, 3) := by decide +kernel
theorem dX11_take_14 : decode cX11_take 14 = .ok (.bipush (-2), 2) := by decide +kernel
theorem dX11_take_16 : decode cX11_take 16 = .ok (.ireturn, 1) := by decide +kernel
theorem dX11_take_17 : decode cX11_take 17 = .ok (.aload_n 0, 1) := by decide +kernel
theorem dX11_take_18 : decode cX11_take 18 = .ok (.iload_n 1, 1) := by decide +kernel
theorem dX11_take_19 : decode cX11_take 19 = .ok (.invokevirtual 101, 3) := by decide +kernel
theorem dX11_take_22 : decode cX11_take 22 = .ok (.iload_n 2, 1) := by decide +kernel
theorem dX11_take_23 : decode cX11_take 23 = .ok (.aload_n 0, 1) := by decide +kernel
theorem dX11_take_24 : decode cX11_take 24 = .ok (.getfield 177, 3) := by decide +kernel
theorem dX11_take_27 : decode cX11_take 27 = .ok (.if_icmp .lt 6, 3) := by decide +kernel
theorem dX11_take_30 : decode cX11_take 30 = .ok (.bipush (-2), 2) := by decide +kernel
theorem dX11_take_32 : decode cX11_take 32 = .ok (.ireturn, 1) := by decide +kernel
theorem dX11_take_33 : decode cX11_take 33 = .ok (.aload_n 0, 1) := by decide +kernel
theorem dX11_take_34 : decode cX11_take 34 = .ok (.iload_n 1, 1) := by decide +kernel
theorem dX11_take_35 : decode cX11_take 35 = .ok (.aload_n 0, 1) := by decide +kernel
theorem dX11_take_36 : decode cX11_take 36 = .ok (.getfield 27, 3) := by decide +kernel
theorem dX11_take_39 : decode cX11_take 39 = .ok (.iload_n 2, 1) := by decide +kernel
theorem dX11_take_40 : decode cX11_take 40 = .ok (.laload, 1) := by decide +kernel
theorem dX11_take_41 : decode cX11_take 41 = .ok (.invokevirtual 225, 3) := by decide +kernel
theorem dX11_take_44 : decode cX11_take 44 = .ok (.iload_n 2, 1) := by decide +kernel
theorem dX11_take_45 : decode cX11_take 45 = .ok (.ireturn, 1) := by decide +kernel
theorem dX11_told_0 : decode cX11_told 0 = .ok (.iload_n 1, 1) := by decide +kernel
theorem dX11_told_1 : decode cX11_told 1 = .ok (.tableswitch 59 0 3 #[31, 36, 41, 54], 31) := by decide +kernel
theorem dX11_told_32 : decode cX11_told 32 = .ok (.aload_n 0, 1) := by decide +kernel
theorem dX11_told_33 : decode cX11_told 33 = .ok (.getfield 98, 3) := by decide +kernel
theorem dX11_told_36 : decode cX11_told 36 = .ok (.ireturn, 1) := by decide +kernel
theorem dX11_told_37 : decode cX11_told 37 = .ok (.aload_n 0, 1) := by decide +kernel
theorem dX11_told_38 : decode cX11_told 38 = .ok (.invokevirtual 229, 3) := by decide +kernel
theorem dX11_told_41 : decode cX11_told 41 = .ok (.ireturn, 1) := by decide +kernel
theorem dX11_told_42 : decode cX11_told 42 = .ok (.aload_n 0, 1) := by decide +kernel
theorem dX11_told_43 : decode cX11_told 43 = .ok (.aload_n 0, 1) := by decide +kernel
theorem dX11_told_44 : decode cX11_told 44 = .ok (.getfield 98, 3) := by decide +kernel
theorem dX11_told_47 : decode cX11_told 47 = .ok (.invokevirtual 101, 3) := by decide +kernel
theorem dX11_told_50 : decode cX11_told 50 = .ok (.aload_n 0, 1) := by decide +kernel
theorem dX11_told_51 : decode cX11_told 51 = .ok (.getfield 177, 3) := by decide +kernel
theorem dX11_told_54 : decode cX11_told 54 = .ok (.ireturn, 1) := by decide +kernel
theorem dX11_told_55 : decode cX11_told 55 = .ok (.aload_n 0, 1) := by decide +kernel
theorem dX11_told_56 : decode cX11_told 56 = .ok (.getfield 109, 3) := by decide +kernel
theorem dX11_told_59 : decode cX11_told 59 = .ok (.ireturn, 1) := by decide +kernel
theorem dX11_told_60 : decode cX11_told 60 = .ok (.iconst (-1), 1) := by decide +kernel
theorem dX11_told_61 : decode cX11_told 61 = .ok (.ireturn, 1) := by decide +kernel
theorem dX11_isCorner_0 : decode cX11_isCorner 0 = .ok (.iload_n 1, 1) := by decide +kernel
theorem dX11_isCorner_1 : decode cX11_isCorner 1 = .ok (.iconst 0, 1) := by decide +kernel
theorem dX11_isCorner_2 : decode cX11_isCorner 2 = .ok (.aload_n 0, 1) := by decide +kernel
theorem dX11_isCorner_3 : decode cX11_isCorner 3 = .ok (.getfield 98, 3) := by decide +kernel
theorem dX11_isCorner_6 : decode cX11_isCorner 6 = .ok (.iconst 1, 1) := by decide +kernel
theorem dX11_isCorner_7 : decode cX11_isCorner 7 = .ok (.isub, 1) := by decide +kernel
theorem dX11_isCorner_8 : decode cX11_isCorner 8 = .ok (.invokestatic 207, 3) := by decide +kernel
theorem dX11_isCorner_11 : decode cX11_isCorner 11 = .ok (.ireturn, 1) := by decide +kernel
theorem dX11_trianglesOf_0 : decode cX11_trianglesOf 0 = .ok (.aload_n 0, 1) := by decide +kernel
theorem dX11_trianglesOf_1 : decode cX11_trianglesOf 1 = .ok (.iload_n 1, 1) := by decide +kernel
theorem dX11_trianglesOf_2 : decode cX11_trianglesOf 2 = .ok (.invokevirtual 171, 3) := by decide +kernel
theorem dX11_trianglesOf_5 : decode cX11_trianglesOf 5 = .ok (.iconst 0, 1) := by decide +kernel
theorem dX11_trianglesOf_6 : decode cX11_trianglesOf 6 = .ok (.istore 4, 2) := by decide +kernel
theorem dX11_trianglesOf_8 : decode cX11_trianglesOf 8 = .ok (.iconst 0, 1) := by decide +kernel
theorem dX11_trianglesOf_9 : decode cX11_trianglesOf 9 = .ok (.istore 5, 2) := by decide +kernel
theorem dX11_trianglesOf_11 : decode cX11_trianglesOf 11 = .ok (.iload 5, 2) := by decide +kernel
theorem dX11_trianglesOf_13 : decode cX11_trianglesOf 13 = .ok (.iload_n 1, 1) := by decide +kernel
theorem dX11_trianglesOf_14 : decode cX11_trianglesOf 14 = .ok (.if_icmp .ge 117, 3) := by decide +kernel
theorem dX11_trianglesOf_17 : decode cX11_trianglesOf 17 = .ok (.iload 5, 2) := by decide +kernel
theorem dX11_trianglesOf_19 : decode cX11_trianglesOf 19 = .ok (.iconst 1, 1) := by decide +kernel
theorem dX11_trianglesOf_20 : decode cX11_trianglesOf 20 = .ok (.iadd, 1) := by decide +kernel
theorem dX11_trianglesOf_21 : decode cX11_trianglesOf 21 = .ok (.istore 6, 2) := by decide +kernel
theorem dX11_trianglesOf_23 : decode cX11_trianglesOf 23 = .ok (.iload 6, 2) := by decide +kernel
theorem dX11_trianglesOf_25 : decode cX11_trianglesOf 25 = .ok (.iload_n 1, 1) := by decide +kernel
theorem dX11_trianglesOf_26 : decode cX11_trianglesOf 26 = .ok (.if_icmp .ge 99, 3) := by decide +kernel
theorem dX11_trianglesOf_29 : decode cX11_trianglesOf 29 = .ok (.iload 6, 2) := by decide +kernel
theorem dX11_trianglesOf_31 : decode cX11_trianglesOf 31 = .ok (.iconst 1, 1) := by decide +kernel
theorem dX11_trianglesOf_32 : decode cX11_trianglesOf 32 = .ok (.iadd, 1) := by decide +kernel
theorem dX11_trianglesOf_33 : decode cX11_trianglesOf 33 = .ok (.istore 7, 2) := by decide +kernel
theorem dX11_trianglesOf_35 : decode cX11_trianglesOf 35 = .ok (.iload 7, 2) := by decide +kernel
theorem dX11_trianglesOf_37 : decode cX11_trianglesOf 37 = .ok (.iload_n 1, 1) := by decide +kernel
theorem dX11_trianglesOf_38 : decode cX11_trianglesOf 38 = .ok (.if_icmp .ge 81, 3) := by decide +kernel
theorem dX11_trianglesOf_41 : decode cX11_trianglesOf 41 = .ok (.aload_n 0, 1) := by decide +kernel
theorem dX11_trianglesOf_42 : decode cX11_trianglesOf 42 = .ok (.iload_n 1, 1) := by decide +kernel
theorem dX11_trianglesOf_43 : decode cX11_trianglesOf 43 = .ok (.lload_n 2, 1) := by decide +kernel
theorem dX11_trianglesOf_44 : decode cX11_trianglesOf 44 = .ok (.iload 5, 2) := by decide +kernel
theorem dX11_trianglesOf_46 : decode cX11_trianglesOf 46 = .ok (.iload 6, 2) := by decide +kernel
theorem dX11_trianglesOf_48 : decode cX11_trianglesOf 48 = .ok (.invokevirtual 233, 3) := by decide +kernel
theorem dX11_trianglesOf_51 : decode cX11_trianglesOf 51 = .ok (.ifCond .eq 62, 3) := by decide +kernel
theorem dX11_trianglesOf_54 : decode cX11_trianglesOf 54 = .ok (.aload_n 0, 1) := by decide +kernel
theorem dX11_trianglesOf_55 : decode cX11_trianglesOf 55 = .ok (.iload_n 1, 1) := by decide +kernel
theorem dX11_trianglesOf_56 : decode cX11_trianglesOf 56 = .ok (.lload_n 2, 1) := by decide +kernel
theorem dX11_trianglesOf_57 : decode cX11_trianglesOf 57 = .ok (.iload 6, 2) := by decide +kernel
theorem dX11_trianglesOf_59 : decode cX11_trianglesOf 59 = .ok (.iload 7, 2) := by decide +kernel
theorem dX11_trianglesOf_61 : decode cX11_trianglesOf 61 = .ok (.invokevirtual 233, 3) := by decide +kernel
theorem dX11_trianglesOf_64 : decode cX11_trianglesOf 64 = .ok (.ifCond .eq 49, 3) := by decide +kernel
theorem dX11_trianglesOf_67 : decode cX11_trianglesOf 67 = .ok (.aload_n 0, 1) := by decide +kernel
theorem dX11_trianglesOf_68 : decode cX11_trianglesOf 68 = .ok (.iload_n 1, 1) := by decide +kernel
theorem dX11_trianglesOf_69 : decode cX11_trianglesOf 69 = .ok (.lload_n 2, 1) := by decide +kernel
theorem dX11_trianglesOf_70 : decode cX11_trianglesOf 70 = .ok (.iload 5, 2) := by decide +kernel
theorem dX11_trianglesOf_72 : decode cX11_trianglesOf 72 = .ok (.iload 7, 2) := by decide +kernel
theorem dX11_trianglesOf_74 : decode cX11_trianglesOf 74 = .ok (.invokevirtual 233, 3) := by decide +kernel
theorem dX11_trianglesOf_77 : decode cX11_trianglesOf 77 = .ok (.ifCond .ne 6, 3) := by decide +kernel
theorem dX11_trianglesOf_80 : decode cX11_trianglesOf 80 = .ok (.goto 33, 3) := by decide +kernel
theorem dX11_trianglesOf_83 : decode cX11_trianglesOf 83 = .ok (.aload_n 0, 1) := by decide +kernel
theorem dX11_trianglesOf_84 : decode cX11_trianglesOf 84 = .ok (.getfield 31, 3) := by decide +kernel
theorem dX11_trianglesOf_87 : decode cX11_trianglesOf 87 = .ok (.iload 4, 2) := by decide +kernel
theorem dX11_trianglesOf_89 : decode cX11_trianglesOf 89 = .ok (.iload 5, 2) := by decide +kernel
theorem dX11_trianglesOf_91 : decode cX11_trianglesOf 91 = .ok (.iastore, 1) := by decide +kernel
theorem dX11_trianglesOf_92 : decode cX11_trianglesOf 92 = .ok (.aload_n 0, 1) := by decide +kernel
theorem dX11_trianglesOf_93 : decode cX11_trianglesOf 93 = .ok (.getfield 34, 3) := by decide +kernel
theorem dX11_trianglesOf_96 : decode cX11_trianglesOf 96 = .ok (.iload 4, 2) := by decide +kernel
theorem dX11_trianglesOf_98 : decode cX11_trianglesOf 98 = .ok (.iload 6, 2) := by decide +kernel
theorem dX11_trianglesOf_100 : decode cX11_trianglesOf 100 = .ok (.iastore, 1) := by decide +kernel
theorem dX11_trianglesOf_101 : decode cX11_trianglesOf 101 = .ok (.aload_n 0, 1) := by decide +kernel
theorem dX11_trianglesOf_102 : decode cX11_trianglesOf 102 = .ok (.getfield 37, 3) := by decide +kernel
theorem dX11_trianglesOf_105 : decode cX11_trianglesOf 105 = .ok (.iload 4, 2) := by decide +kernel
theorem dX11_trianglesOf_107 : decode cX11_trianglesOf 107 = .ok (.iload 7, 2) := by decide +kernel
theorem dX11_trianglesOf_109 : decode cX11_trianglesOf 109 = .ok (.iastore, 1) := by decide +kernel
theorem dX11_trianglesOf_110 : decode cX11_trianglesOf 110 = .ok (.iinc 4 1, 3) := by decide +kernel
theorem dX11_trianglesOf_113 : decode cX11_trianglesOf 113 = .ok (.iinc 7 1, 3) := by decide +kernel
theorem dX11_trianglesOf_116 : decode cX11_trianglesOf 116 = .ok (.goto (-81), 3) := by decide +kernel
theorem dX11_trianglesOf_119 : decode cX11_trianglesOf 119 = .ok (.iinc 6 1, 3) := by decide +kernel
theorem dX11_trianglesOf_122 : decode cX11_trianglesOf 122 = .ok (.goto (-99), 3) := by decide +kernel
theorem dX11_trianglesOf_125 : decode cX11_trianglesOf 125 = .ok (.iinc 5 1, 3) := by decide +kernel
theorem dX11_trianglesOf_128 : decode cX11_trianglesOf 128 = .ok (.goto (-117), 3) := by decide +kernel
theorem dX11_trianglesOf_131 : decode cX11_trianglesOf 131 = .ok (.return_, 1) := by decide +kernel
theorem dX11_triangle_0 : decode cX11_triangle 0 = .ok (.iload_n 1, 1) := by decide +kernel
theorem dX11_triangle_1 : decode cX11_triangle 1 = .ok (.iconst 0, 1) := by decide +kernel
theorem dX11_triangle_2 : decode cX11_triangle 2 = .ok (.aload_n 0, 1) := by decide +kernel
theorem dX11_triangle_3 : decode cX11_triangle 3 = .ok (.getfield 98, 3) := by decide +kernel
theorem dX11_triangle_6 : decode cX11_triangle 6 = .ok (.iconst 3, 1) := by decide +kernel
theorem dX11_triangle_7 : decode cX11_triangle 7 = .ok (.isub, 1) := by decide +kernel
theorem dX11_triangle_8 : decode cX11_triangle 8 = .ok (.invokestatic 207, 3) := by decide +kernel
theorem dX11_triangle_11 : decode cX11_triangle 11 = .ok (.ifCond .eq 12, 3) := by decide +kernel
theorem dX11_triangle_14 : decode cX11_triangle 14 = .ok (.iload_n 2, 1) := by decide +kernel
theorem dX11_triangle_15 : decode cX11_triangle 15 = .ok (.iconst 0, 1) := by decide +kernel
theorem dX11_triangle_16 : decode cX11_triangle 16 = .ok (.iconst 2, 1) := by decide +kernel
theorem dX11_triangle_17 : decode cX11_triangle 17 = .ok (.invokestatic 207, 3) := by decide +kernel
theorem dX11_triangle_20 : decode cX11_triangle 20 = .ok (.ifCond .ne 6, 3) := by decide +kernel
theorem dX11_triangle_23 : decode cX11_triangle 23 = .ok (.bipush (-2), 2) := by decide +kernel
theorem dX11_triangle_25 : decode cX11_triangle 25 = .ok (.ireturn, 1) := by decide +kernel
theorem dX11_triangle_26 : decode cX11_triangle 26 = .ok (.aload_n 0, 1) := by decide +kernel
theorem dX11_triangle_27 : decode cX11_triangle 27 = .ok (.aload_n 0, 1) := by decide +kernel
theorem dX11_triangle_28 : decode cX11_triangle 28 = .ok (.getfield 98, 3) := by decide +kernel
theorem dX11_triangle_31 : decode cX11_triangle 31 = .ok (.aload_n 0, 1) := by decide +kernel
theorem dX11_triangle_32 : decode cX11_triangle 32 = .ok (.getfield 105, 3) := by decide +kernel
theorem dX11_triangle_35 : decode cX11_triangle 35 = .ok (.invokevirtual 237, 3) := by decide +kernel
theorem dX11_triangle_38 : decode cX11_triangle 38 = .ok (.iload_n 2, 1) := by decide +kernel
theorem dX11_triangle_39 : decode cX11_triangle 39 = .ok (.ifCond .ne 12, 3) := by decide +kernel
theorem dX11_triangle_42 : decode cX11_triangle 42 = .ok (.aload_n 0, 1) := by decide +kernel
theorem dX11_triangle_43 : decode cX11_triangle 43 = .ok (.getfield 31, 3) := by decide +kernel
theorem dX11_triangle_46 : decode cX11_triangle 46 = .ok (.iload_n 1, 1) := by decide +kernel
theorem dX11_triangle_47 : decode cX11_triangle 47 = .ok (.iaload, 1) := by decide +kernel
theorem dX11_triangle_48 : decode cX11_triangle 48 = .ok (.goto 23, 3) := by decide +kernel
theorem dX11_triangle_51 : decode cX11_triangle 51 = .ok (.iload_n 2, 1) := by decide +kernel
theorem dX11_triangle_52 : decode cX11_triangle 52 = .ok (.iconst 1, 1) := by decide +kernel
theorem dX11_triangle_53 : decode cX11_triangle 53 = .ok (.if_icmp .ne 12, 3) := by decide +kernel
theorem dX11_triangle_56 : decode cX11_triangle 56 = .ok (.aload_n 0, 1) := by decide +kernel
theorem dX11_triangle_57 : decode cX11_triangle 57 = .ok (.getfield 34, 3) := by decide +kernel
theorem dX11_triangle_60 : decode cX11_triangle 60 = .ok (.iload_n 1, 1) := by decide +kernel
theorem dX11_triangle_61 : decode cX11_triangle 61 = .ok (.iaload, 1) := by decide +kernel
theorem dX11_triangle_62 : decode cX11_triangle 62 = .ok (.goto 9, 3) := by decide +kernel
theorem dX11_triangle_65 : decode cX11_triangle 65 = .ok (.aload_n 0, 1) := by decide +kernel
theorem dX11_triangle_66 : decode cX11_triangle 66 = .ok (.getfield 37, 3) := by decide +kernel
theorem dX11_triangle_69 : decode cX11_triangle 69 = .ok (.iload_n 1, 1) := by decide +kernel
theorem dX11_triangle_70 : decode cX11_triangle 70 = .ok (.iaload, 1) := by decide +kernel
theorem dX11_triangle_71 : decode cX11_triangle 71 = .ok (.ireturn, 1) := by decide +kernel
theorem dX11_isAt_0 : decode cX11_isAt 0 = .ok (.aload_n 0, 1) := by decide +kernel
theorem dX11_isAt_1 : decode cX11_isAt 1 = .ok (.getfield 31, 3) := by decide +kernel
theorem dX11_isAt_4 : decode cX11_isAt 4 = .ok (.iload_n 1, 1) := by decide +kernel
theorem dX11_isAt_5 : decode cX11_isAt 5 = .ok (.iaload, 1) := by decide +kernel
theorem dX11_isAt_6 : decode cX11_isAt 6 = .ok (.iload_n 2, 1) := by decide +kernel
theorem dX11_isAt_7 : decode cX11_isAt 7 = .ok (.if_icmp .eq 23, 3) := by decide +kernel
theorem dX11_isAt_10 : decode cX11_isAt 10 = .ok (.aload_n 0, 1) := by decide +kernel
theorem dX11_isAt_11 : decode cX11_isAt 11 = .ok (.getfield 34, 3) := by decide +kernel
theorem dX11_isAt_14 : decode cX11_isAt 14 = .ok (.iload_n 1, 1) := by decide +kernel
theorem dX11_isAt_15 : decode cX11_isAt 15 = .ok (.iaload, 1) := by decide +kernel
theorem dX11_isAt_16 : decode cX11_isAt 16 = .ok (.iload_n 2, 1) := by decide +kernel
theorem dX11_isAt_17 : decode cX11_isAt 17 = .ok (.if_icmp .eq 13, 3) := by decide +kernel
theorem dX11_isAt_20 : decode cX11_isAt 20 = .ok (.aload_n 0, 1) := by decide +kernel
theorem dX11_isAt_21 : decode cX11_isAt 21 = .ok (.getfield 37, 3) := by decide +kernel
theorem dX11_isAt_24 : decode cX11_isAt 24 = .ok (.iload_n 1, 1) := by decide +kernel
theorem dX11_isAt_25 : decode cX11_isAt 25 = .ok (.iaload, 1) := by decide +kernel
theorem dX11_isAt_26 : decode cX11_isAt 26 = .ok (.iload_n 2, 1) := by decide +kernel
theorem dX11_isAt_27 : decode cX11_isAt 27 = .ok (.if_icmp .ne 7, 3) := by decide +kernel
theorem dX11_isAt_30 : decode cX11_isAt 30 = .ok (.iconst 1, 1) := by decide +kernel
theorem dX11_isAt_31 : decode cX11_isAt 31 = .ok (.goto 4, 3) := by decide +kernel
theorem dX11_isAt_34 : decode cX11_isAt 34 = .ok (.iconst 0, 1) := by decide +kernel
theorem dX11_isAt_35 : decode cX11_isAt 35 = .ok (.ireturn, 1) := by decide +kernel
theorem dX11_entriesFrom_0 : decode cX11_entriesFrom 0 = .ok (.aload_n 0, 1) := by decide +kernel
theorem dX11_entriesFrom_1 : decode cX11_entriesFrom 1 = .ok (.iload_n 1, 1) := by decide +kernel
theorem dX11_entriesFrom_2 : decode cX11_entriesFrom 2 = .ok (.lload_n 2, 1) := by decide +kernel
theorem dX11_entriesFrom_3 : decode cX11_entriesFrom 3 = .ok (.invokevirtual 237, 3) := by decide +kernel
theorem dX11_entriesFrom_6 : decode cX11_entriesFrom 6 = .ok (.iconst 0, 1) := by decide +kernel
theorem dX11_entriesFrom_7 : decode cX11_entriesFrom 7 = .ok (.istore 5, 2) := by decide +kernel
theorem dX11_entriesFrom_9 : decode cX11_entriesFrom 9 = .ok (.iload 5, 2) := by decide +kernel
theorem dX11_entriesFrom_11 : decode cX11_entriesFrom 11 = .ok (.iload_n 1, 1) := by decide +kernel
theorem dX11_entriesFrom_12 : decode cX11_entriesFrom 12 = .ok (.if_icmp .ge 45, 3) := by decide +kernel
theorem dX11_entriesFrom_15 : decode cX11_entriesFrom 15 = .ok (.aload_n 0, 1) := by decide +kernel
theorem dX11_entriesFrom_16 : decode cX11_entriesFrom 16 = .ok (.getfield 40, 3) := by decide +kernel
theorem dX11_entriesFrom_19 : decode cX11_entriesFrom 19 = .ok (.iload 5, 2) := by decide +kernel
theorem dX11_entriesFrom_21 : decode cX11_entriesFrom 21 = .ok (.iload 5, 2) := by decide +kernel
theorem dX11_entriesFrom_23 : decode cX11_entriesFrom 23 = .ok (.iload 4, 2) := by decide +kernel
theorem dX11_entriesFrom_25 : decode cX11_entriesFrom 25 = .ok (.if_icmp .ne 7, 3) := by decide +kernel
theorem dX11_entriesFrom_28 : decode cX11_entriesFrom 28 = .ok (.iconst 0, 1) := by decide +kernel
theorem dX11_entriesFrom_29 : decode cX11_entriesFrom 29 = .ok (.goto 21, 3) := by decide +kernel
theorem dX11_entriesFrom_32 : decode cX11_entriesFrom 32 = .ok (.aload_n 0, 1) := by decide +kernel
theorem dX11_entriesFrom_33 : decode cX11_entriesFrom 33 = .ok (.iload_n 1, 1) := by decide +kernel
theorem dX11_entriesFrom_34 : decode cX11_entriesFrom 34 = .ok (.lload_n 2, 1) := by decide +kernel
theorem dX11_entriesFrom_35 : decode cX11_entriesFrom 35 = .ok (.iload 4, 2) := by decide +kernel
theorem dX11_entriesFrom_37 : decode cX11_entriesFrom 37 = .ok (.iload 5, 2) := by decide +kernel
theorem dX11_entriesFrom_39 : decode cX11_entriesFrom 39 = .ok (.invokevirtual 233, 3) := by decide +kernel
theorem dX11_entriesFrom_42 : decode cX11_entriesFrom 42 = .ok (.ifCond .eq 7, 3) := by decide +kernel
theorem dX11_entriesFrom_45 : decode cX11_entriesFrom 45 = .ok (.iconst 1, 1) := by decide +kernel
theorem dX11_entriesFrom_46 : decode cX11_entriesFrom 46 = .ok (.goto 4, 3) := by decide +kernel
theorem dX11_entriesFrom_49 : decode cX11_entriesFrom 49 = .ok (.iconst (-1), 1) := by decide +kernel
theorem dX11_entriesFrom_50 : decode cX11_entriesFrom 50 = .ok (.iastore, 1) := by decide +kernel
theorem dX11_entriesFrom_51 : decode cX11_entriesFrom 51 = .ok (.iinc 5 1, 3) := by decide +kernel
theorem dX11_entriesFrom_54 : decode cX11_entriesFrom 54 = .ok (.goto (-45), 3) := by decide +kernel
theorem dX11_entriesFrom_57 : decode cX11_entriesFrom 57 = .ok (.iconst 1, 1) := by decide +kernel
theorem dX11_entriesFrom_58 : decode cX11_entriesFrom 58 = .ok (.istore 5, 2) := by decide +kernel
theorem dX11_entriesFrom_60 : decode cX11_entriesFrom 60 = .ok (.iload 5, 2) := by decide +kernel
theorem dX11_entriesFrom_62 : decode cX11_entriesFrom 62 = .ok (.ifCond .eq 249, 3) := by decide +kernel
theorem dX11_entriesFrom_65 : decode cX11_entriesFrom 65 = .ok (.iconst 0, 1) := by decide +kernel
theorem dX11_entriesFrom_66 : decode cX11_entriesFrom 66 = .ok (.istore 5, 2) := by decide +kernel
theorem dX11_entriesFrom_68 : decode cX11_entriesFrom 68 = .ok (.iconst 0, 1) := by decide +kernel
theorem dX11_entriesFrom_69 : decode cX11_entriesFrom 69 = .ok (.istore 6, 2) := by decide +kernel
theorem dX11_entriesFrom_71 : decode cX11_entriesFrom 71 = .ok (.iload 6, 2) := by decide +kernel
theorem dX11_entriesFrom_73 : decode cX11_entriesFrom 73 = .ok (.iload_n 1, 1) := by decide +kernel
theorem dX11_entriesFrom_74 : decode cX11_entriesFrom 74 = .ok (.iconst 2, 1) := by decide +kernel
theorem dX11_entriesFrom_75 : decode cX11_entriesFrom 75 = .ok (.isub, 1) := by decide +kernel
theorem dX11_entriesFrom_76 : decode cX11_entriesFrom 76 = .ok (.if_icmp .ge 232, 3) := by decide +kernel
theorem dX11_entriesFrom_79 : decode cX11_entriesFrom 79 = .ok (.aload_n 0, 1) := by decide +kernel
theorem dX11_entriesFrom_80 : decode cX11_entriesFrom 80 = .ok (.getfield 40, 3) := by decide +kernel
theorem dX11_entriesFrom_83 : decode cX11_entriesFrom 83 = .ok (.aload_n 0, 1) := by decide +kernel
theorem dX11_entriesFrom_84 : decode cX11_entriesFrom 84 = .ok (.getfield 31, 3) := by decide +kernel
theorem dX11_entriesFrom_87 : decode cX11_entriesFrom 87 = .ok (.iload 6, 2) := by decide +kernel
theorem dX11_entriesFrom_89 : decode cX11_entriesFrom 89 = .ok (.iaload, 1) := by decide +kernel
theorem dX11_entriesFrom_90 : decode cX11_entriesFrom 90 = .ok (.iaload, 1) := by decide +kernel
theorem dX11_entriesFrom_91 : decode cX11_entriesFrom 91 = .ok (.ifCond .ge 7, 3) := by decide +kernel
theorem dX11_entriesFrom_94 : decode cX11_entriesFrom 94 = .ok (.iconst 1, 1) := by decide +kernel
theorem dX11_entriesFrom_95 : decode cX11_entriesFrom 95 = .ok (.goto 4, 3) := by decide +kernel
theorem dX11_entriesFrom_98 : decode cX11_entriesFrom 98 = .ok (.iconst 0, 1) := by decide +kernel
theorem dX11_entriesFrom_99 : decode cX11_entriesFrom 99 = .ok (.aload_n 0, 1) := by decide +kernel
theorem dX11_entriesFrom_100 : decode cX11_entriesFrom 100 = .ok (.getfield 40, 3) := by decide +kernel
theorem dX11_entriesFrom_103 : decode cX11_entriesFrom 103 = .ok (.aload_n 0, 1) := by decide +kernel
theorem dX11_entriesFrom_104 : decode cX11_entriesFrom 104 = .ok (.getfield 34, 3) := by decide +kernel
theorem dX11_entriesFrom_107 : decode cX11_entriesFrom 107 = .ok (.iload 6, 2) := by decide +kernel
theorem dX11_entriesFrom_109 : decode cX11_entriesFrom 109 = .ok (.iaload, 1) := by decide +kernel
theorem dX11_entriesFrom_110 : decode cX11_entriesFrom 110 = .ok (.iaload, 1) := by decide +kernel
theorem dX11_entriesFrom_111 : decode cX11_entriesFrom 111 = .ok (.ifCond .ge 7, 3) := by decide +kernel
theorem dX11_entriesFrom_114 : decode cX11_entriesFrom 114 = .ok (.iconst 1, 1) := by decide +kernel
theorem dX11_entriesFrom_115 : decode cX11_entriesFrom 115 = .ok (.goto 4, 3) := by decide +kernel
theorem dX11_entriesFrom_118 : decode cX11_entriesFrom 118 = .ok (.iconst 0, 1) := by decide +kernel
theorem dX11_entriesFrom_119 : decode cX11_entriesFrom 119 = .ok (.iadd, 1) := by decide +kernel
theorem dX11_entriesFrom_120 : decode cX11_entriesFrom 120 = .ok (.aload_n 0, 1) := by decide +kernel
theorem dX11_entriesFrom_121 : decode cX11_entriesFrom 121 = .ok (.getfield 40, 3) := by decide +kernel
theorem dX11_entriesFrom_124 : decode cX11_entriesFrom 124 = .ok (.aload_n 0, 1) := by decide +kernel
theorem dX11_entriesFrom_125 : decode cX11_entriesFrom 125 = .ok (.getfield 37, 3) := by decide +kernel
theorem dX11_entriesFrom_128 : decode cX11_entriesFrom 128 = .ok (.iload 6, 2) := by decide +kernel
theorem dX11_entriesFrom_130 : decode cX11_entriesFrom 130 = .ok (.iaload, 1) := by decide +kernel
theorem dX11_entriesFrom_131 : decode cX11_entriesFrom 131 = .ok (.iaload, 1) := by decide +kernel
theorem dX11_entriesFrom_132 : decode cX11_entriesFrom 132 = .ok (.ifCond .ge 7, 3) := by decide +kernel
theorem dX11_entriesFrom_135 : decode cX11_entriesFrom 135 = .ok (.iconst 1, 1) := by decide +kernel
theorem dX11_entriesFrom_136 : decode cX11_entriesFrom 136 = .ok (.goto 4, 3) := by decide +kernel
theorem dX11_entriesFrom_139 : decode cX11_entriesFrom 139 = .ok (.iconst 0, 1) := by decide +kernel
theorem dX11_entriesFrom_140 : decode cX11_entriesFrom 140 = .ok (.iadd, 1) := by decide +kernel
theorem dX11_entriesFrom_141 : decode cX11_entriesFrom 141 = .ok (.istore 7, 2) := by decide +kernel
theorem dX11_entriesFrom_143 : decode cX11_entriesFrom 143 = .ok (.iload 7, 2) := by decide +kernel
theorem dX11_entriesFrom_145 : decode cX11_entriesFrom 145 = .ok (.iconst 1, 1) := by decide +kernel
theorem dX11_entriesFrom_146 : decode cX11_entriesFrom 146 = .ok (.if_icmp .eq 6, 3) := by decide +kernel
theorem dX11_entriesFrom_149 : decode cX11_entriesFrom 149 = .ok (.goto 153, 3) := by decide +kernel
theorem dX11_entriesFrom_152 : decode cX11_entriesFrom 152 = .ok (.iconst 1, 1) := by decide +kernel
theorem dX11_entriesFrom_153 : decode cX11_entriesFrom 153 = .ok (.istore 5, 2) := by decide +kernel
theorem dX11_entriesFrom_155 : decode cX11_entriesFrom 155 = .ok (.aload_n 0, 1) := by decide +kernel
theorem dX11_entriesFrom_156 : decode cX11_entriesFrom 156 = .ok (.getfield 40, 3) := by decide +kernel
theorem dX11_entriesFrom_159 : decode cX11_entriesFrom 159 = .ok (.aload_n 0, 1) := by decide +kernel
theorem dX11_entriesFrom_160 : decode cX11_entriesFrom 160 = .ok (.getfield 31, 3) := by decide +kernel
theorem dX11_entriesFrom_163 : decode cX11_entriesFrom 163 = .ok (.iload 6, 2) := by decide +kernel
theorem dX11_entriesFrom_165 : decode cX11_entriesFrom 165 = .ok (.iaload, 1) := by decide +kernel
theorem dX11_entriesFrom_166 : decode cX11_entriesFrom 166 = .ok (.iaload, 1) := by decide +kernel
theorem dX11_entriesFrom_167 : decode cX11_entriesFrom 167 = .ok (.ifCond .ge 43, 3) := by decide +kernel
theorem dX11_entriesFrom_170 : decode cX11_entriesFrom 170 = .ok (.aload_n 0, 1) := by decide +kernel
theorem dX11_entriesFrom_171 : decode cX11_entriesFrom 171 = .ok (.getfield 40, 3) := by decide +kernel
theorem dX11_entriesFrom_174 : decode cX11_entriesFrom 174 = .ok (.aload_n 0, 1) := by decide +kernel
theorem dX11_entriesFrom_175 : decode cX11_entriesFrom 175 = .ok (.getfield 31, 3) := by decide +kernel
theorem dX11_entriesFrom_178 : decode cX11_entriesFrom 178 = .ok (.iload 6, 2) := by decide +kernel
theorem dX11_entriesFrom_180 : decode cX11_entriesFrom 180 = .ok (.iaload, 1) := by decide +kernel
theorem dX11_entriesFrom_181 : decode cX11_entriesFrom 181 = .ok (.aload_n 0, 1) := by decide +kernel
theorem dX11_entriesFrom_182 : decode cX11_entriesFrom 182 = .ok (.getfield 40, 3) := by decide +kernel
theorem dX11_entriesFrom_185 : decode cX11_entriesFrom 185 = .ok (.aload_n 0, 1) := by decide +kernel
theorem dX11_entriesFrom_186 : decode cX11_entriesFrom 186 = .ok (.getfield 34, 3) := by decide +kernel
theorem dX11_entriesFrom_189 : decode cX11_entriesFrom 189 = .ok (.iload 6, 2) := by decide +kernel
theorem dX11_entriesFrom_191 : decode cX11_entriesFrom 191 = .ok (.iaload, 1) := by decide +kernel
theorem dX11_entriesFrom_192 : decode cX11_entriesFrom 192 = .ok (.iaload, 1) := by decide +kernel
theorem dX11_entriesFrom_193 : decode cX11_entriesFrom 193 = .ok (.aload_n 0, 1) := by decide +kernel
theorem dX11_entriesFrom_194 : decode cX11_entriesFrom 194 = .ok (.getfield 40, 3) := by decide +kernel
theorem dX11_entriesFrom_197 : decode cX11_entriesFrom 197 = .ok (.aload_n 0, 1) := by decide +kernel
theorem dX11_entriesFrom_198 : decode cX11_entriesFrom 198 = .ok (.getfield 37, 3) := by decide +kernel
theorem dX11_entriesFrom_201 : decode cX11_entriesFrom 201 = .ok (.iload 6, 2) := by decide +kernel
theorem dX11_entriesFrom_203 : decode cX11_entriesFrom 203 = .ok (.iaload, 1) := by decide +kernel
theorem dX11_entriesFrom_204 : decode cX11_entriesFrom 204 = .ok (.iaload, 1) := by decide +kernel
theorem dX11_entriesFrom_205 : decode cX11_entriesFrom 205 = .ok (.iadd, 1) := by decide +kernel
theorem dX11_entriesFrom_206 : decode cX11_entriesFrom 206 = .ok (.iastore, 1) := by decide +kernel
theorem dX11_entriesFrom_207 : decode cX11_entriesFrom 207 = .ok (.goto 95, 3) := by decide +kernel
theorem dX11_entriesFrom_210 : decode cX11_entriesFrom 210 = .ok (.aload_n 0, 1) := by decide +kernel
theorem dX11_entriesFrom_211 : decode cX11_entriesFrom 211 = .ok (.getfield 40, 3) := by decide +kernel
theorem dX11_entriesFrom_214 : decode cX11_entriesFrom 214 = .ok (.aload_n 0, 1) := by decide +kernel
theorem dX11_entriesFrom_215 : decode cX11_entriesFrom 215 = .ok (.getfield 34, 3) := by decide +kernel
theorem dX11_entriesFrom_218 : decode cX11_entriesFrom 218 = .ok (.iload 6, 2) := by decide +kernel
theorem dX11_entriesFrom_220 : decode cX11_entriesFrom 220 = .ok (.iaload, 1) := by decide +kernel
theorem dX11_entriesFrom_221 : decode cX11_entriesFrom 221 = .ok (.iaload, 1) := by decide +kernel
theorem dX11_entriesFrom_222 : decode cX11_entriesFrom 222 = .ok (.ifCond .ge 43, 3) := by decide +kernel
theorem dX11_entriesFrom_225 : decode cX11_entriesFrom 225 = .ok (.aload_n 0, 1) := by decide +kernel
theorem dX11_entriesFrom_226 : decode cX11_entriesFrom 226 = .ok (.getfield 40, 3) := by decide +kernel
theorem dX11_entriesFrom_229 : decode cX11_entriesFrom 229 = .ok (.aload_n 0, 1) := by decide +kernel
theorem dX11_entriesFrom_230 : decode cX11_entriesFrom 230 = .ok (.getfield 34, 3) := by decide +kernel
theorem dX11_entriesFrom_233 : decode cX11_entriesFrom 233 = .ok (.iload 6, 2) := by decide +kernel
theorem dX11_entriesFrom_235 : decode cX11_entriesFrom 235 = .ok (.iaload, 1) := by decide +kernel
theorem dX11_entriesFrom_236 : decode cX11_entriesFrom 236 = .ok (.aload_n 0, 1) := by decide +kernel
theorem dX11_entriesFrom_237 : decode cX11_entriesFrom 237 = .ok (.getfield 40, 3) := by decide +kernel
theorem dX11_entriesFrom_240 : decode cX11_entriesFrom 240 = .ok (.aload_n 0, 1) := by decide +kernel
theorem dX11_entriesFrom_241 : decode cX11_entriesFrom 241 = .ok (.getfield 31, 3) := by decide +kernel
theorem dX11_entriesFrom_244 : decode cX11_entriesFrom 244 = .ok (.iload 6, 2) := by decide +kernel
theorem dX11_entriesFrom_246 : decode cX11_entriesFrom 246 = .ok (.iaload, 1) := by decide +kernel
theorem dX11_entriesFrom_247 : decode cX11_entriesFrom 247 = .ok (.iaload, 1) := by decide +kernel
theorem dX11_entriesFrom_248 : decode cX11_entriesFrom 248 = .ok (.aload_n 0, 1) := by decide +kernel
theorem dX11_entriesFrom_249 : decode cX11_entriesFrom 249 = .ok (.getfield 40, 3) := by decide +kernel
theorem dX11_entriesFrom_252 : decode cX11_entriesFrom 252 = .ok (.aload_n 0, 1) := by decide +kernel
theorem dX11_entriesFrom_253 : decode cX11_entriesFrom 253 = .ok (.getfield 37, 3) := by decide +kernel
theorem dX11_entriesFrom_256 : decode cX11_entriesFrom 256 = .ok (.iload 6, 2) := by decide +kernel
theorem dX11_entriesFrom_258 : decode cX11_entriesFrom 258 = .ok (.iaload, 1) := by decide +kernel
theorem dX11_entriesFrom_259 : decode cX11_entriesFrom 259 = .ok (.iaload, 1) := by decide +kernel
theorem dX11_entriesFrom_260 : decode cX11_entriesFrom 260 = .ok (.iadd, 1) := by decide +kernel
theorem dX11_entriesFrom_261 : decode cX11_entriesFrom 261 = .ok (.iastore, 1) := by decide +kernel
theorem dX11_entriesFrom_262 : decode cX11_entriesFrom 262 = .ok (.goto 40, 3) := by decide +kernel
theorem dX11_entriesFrom_265 : decode cX11_entriesFrom 265 = .ok (.aload_n 0, 1) := by decide +kernel
theorem dX11_entriesFrom_266 : decode cX11_entriesFrom 266 = .ok (.getfield 40, 3) := by decide +kernel
theorem dX11_entriesFrom_269 : decode cX11_entriesFrom 269 = .ok (.aload_n 0, 1) := by decide +kernel
theorem dX11_entriesFrom_270 : decode cX11_entriesFrom 270 = .ok (.getfield 37, 3) := by decide +kernel
theorem dX11_entriesFrom_273 : decode cX11_entriesFrom 273 = .ok (.iload 6, 2) := by decide +kernel
theorem dX11_entriesFrom_275 : decode cX11_entriesFrom 275 = .ok (.iaload, 1) := by decide +kernel
theorem dX11_entriesFrom_276 : decode cX11_entriesFrom 276 = .ok (.aload_n 0, 1) := by decide +kernel
theorem dX11_entriesFrom_277 : decode cX11_entriesFrom 277 = .ok (.getfield 40, 3) := by decide +kernel
theorem dX11_entriesFrom_280 : decode cX11_entriesFrom 280 = .ok (.aload_n 0, 1) := by decide +kernel
theorem dX11_entriesFrom_281 : decode cX11_entriesFrom 281 = .ok (.getfield 31, 3) := by decide +kernel
theorem dX11_entriesFrom_284 : decode cX11_entriesFrom 284 = .ok (.iload 6, 2) := by decide +kernel
theorem dX11_entriesFrom_286 : decode cX11_entriesFrom 286 = .ok (.iaload, 1) := by decide +kernel
theorem dX11_entriesFrom_287 : decode cX11_entriesFrom 287 = .ok (.iaload, 1) := by decide +kernel
theorem dX11_entriesFrom_288 : decode cX11_entriesFrom 288 = .ok (.aload_n 0, 1) := by decide +kernel
theorem dX11_entriesFrom_289 : decode cX11_entriesFrom 289 = .ok (.getfield 40, 3) := by decide +kernel
theorem dX11_entriesFrom_292 : decode cX11_entriesFrom 292 = .ok (.aload_n 0, 1) := by decide +kernel
theorem dX11_entriesFrom_293 : decode cX11_entriesFrom 293 = .ok (.getfield 34, 3) := by decide +kernel
theorem dX11_entriesFrom_296 : decode cX11_entriesFrom 296 = .ok (.iload 6, 2) := by decide +kernel
theorem dX11_entriesFrom_298 : decode cX11_entriesFrom 298 = .ok (.iaload, 1) := by decide +kernel
theorem dX11_entriesFrom_299 : decode cX11_entriesFrom 299 = .ok (.iaload, 1) := by decide +kernel
theorem dX11_entriesFrom_300 : decode cX11_entriesFrom 300 = .ok (.iadd, 1) := by decide +kernel
theorem dX11_entriesFrom_301 : decode cX11_entriesFrom 301 = .ok (.iastore, 1) := by decide +kernel
theorem dX11_entriesFrom_302 : decode cX11_entriesFrom 302 = .ok (.iinc 6 1, 3) := by decide +kernel
theorem dX11_entriesFrom_305 : decode cX11_entriesFrom 305 = .ok (.goto (-234), 3) := by decide +kernel
theorem dX11_entriesFrom_308 : decode cX11_entriesFrom 308 = .ok (.goto (-248), 3) := by decide +kernel
theorem dX11_entriesFrom_311 : decode cX11_entriesFrom 311 = .ok (.return_, 1) := by decide +kernel
theorem dX11_entryOf_0 : decode cX11_entryOf 0 = .ok (.aload_n 0, 1) := by decide +kernel
theorem dX11_entryOf_1 : decode cX11_entryOf 1 = .ok (.iload_n 1, 1) := by decide +kernel
theorem dX11_entryOf_2 : decode cX11_entryOf 2 = .ok (.lload_n 2, 1) := by decide +kernel
theorem dX11_entryOf_3 : decode cX11_entryOf 3 = .ok (.iload 4, 2) := by decide +kernel
theorem dX11_entryOf_5 : decode cX11_entryOf 5 = .ok (.invokevirtual 240, 3) := by decide +kernel
theorem dX11_entryOf_8 : decode cX11_entryOf 8 = .ok (.aload_n 0, 1) := by decide +kernel
theorem dX11_entryOf_9 : decode cX11_entryOf 9 = .ok (.getfield 40, 3) := by decide +kernel
theorem dX11_entryOf_12 : decode cX11_entryOf 12 = .ok (.iload 5, 2) := by decide +kernel
theorem dX11_entryOf_14 : decode cX11_entryOf 14 = .ok (.iaload, 1) := by decide +kernel
theorem dX11_entryOf_15 : decode cX11_entryOf 15 = .ok (.ireturn, 1) := by decide +kernel
theorem dX11_entry_0 : decode cX11_entry 0 = .ok (.aload_n 0, 1) := by decide +kernel
theorem dX11_entry_1 : decode cX11_entry 1 = .ok (.iload_n 1, 1) := by decide +kernel
theorem dX11_entry_2 : decode cX11_entry 2 = .ok (.invokevirtual 244, 3) := by decide +kernel
theorem dX11_entry_5 : decode cX11_entry 5 = .ok (.ifCond .eq 28, 3) := by decide +kernel
theorem dX11_entry_8 : decode cX11_entry 8 = .ok (.aload_n 0, 1) := by decide +kernel
theorem dX11_entry_9 : decode cX11_entry 9 = .ok (.iload_n 2, 1) := by decide +kernel
theorem dX11_entry_10 : decode cX11_entry 10 = .ok (.invokevirtual 244, 3) := by decide +kernel
theorem dX11_entry_13 : decode cX11_entry 13 = .ok (.ifCond .eq 20, 3) := by decide +kernel
theorem dX11_entry_16 : decode cX11_entry 16 = .ok (.aload_n 0, 1) := by decide +kernel
theorem dX11_entry_17 : decode cX11_entry 17 = .ok (.aload_n 0, 1) := by decide +kernel
theorem dX11_entry_18 : decode cX11_entry 18 = .ok (.getfield 98, 3) := by decide +kernel
theorem dX11_entry_21 : decode cX11_entry 21 = .ok (.aload_n 0, 1) := by decide +kernel
theorem dX11_entry_22 : decode cX11_entry 22 = .ok (.getfield 105, 3) := by decide +kernel
theorem dX11_entry_25 : decode cX11_entry 25 = .ok (.iload_n 1, 1) := by decide +kernel
theorem dX11_entry_26 : decode cX11_entry 26 = .ok (.iload_n 2, 1) := by decide +kernel
theorem dX11_entry_27 : decode cX11_entry 27 = .ok (.invokevirtual 247, 3) := by decide +kernel
theorem dX11_entry_30 : decode cX11_entry 30 = .ok (.goto 5, 3) := by decide +kernel
theorem dX11_entry_33 : decode cX11_entry 33 = .ok (.bipush (-2), 2) := by decide +kernel
theorem dX11_entry_35 : decode cX11_entry 35 = .ok (.ireturn, 1) := by decide +kernel
theorem dX11_rowAt_0 : decode cX11_rowAt 0 = .ok (.iconst 1, 1) := by decide +kernel
theorem dX11_rowAt_1 : decode cX11_rowAt 1 = .ok (.istore 5, 2) := by decide +kernel
theorem dX11_rowAt_3 : decode cX11_rowAt 3 = .ok (.iconst 0, 1) := by decide +kernel
theorem dX11_rowAt_4 : decode cX11_rowAt 4 = .ok (.istore 6, 2) := by decide +kernel
theorem dX11_rowAt_6 : decode cX11_rowAt 6 = .ok (.iload 6, 2) := by decide +kernel
theorem dX11_rowAt_8 : decode cX11_rowAt 8 = .ok (.iload_n 1, 1) := by decide +kernel
theorem dX11_rowAt_9 : decode cX11_rowAt 9 = .ok (.if_icmp .ge 43, 3) := by decide +kernel
theorem dX11_rowAt_12 : decode cX11_rowAt 12 = .ok (.iload 5, 2) := by decide +kernel
theorem dX11_rowAt_14 : decode cX11_rowAt 14 = .ok (.iload_n 1, 1) := by decide +kernel
theorem dX11_rowAt_15 : decode cX11_rowAt 15 = .ok (.iload 4, 2) := by decide +kernel
theorem dX11_rowAt_17 : decode cX11_rowAt 17 = .ok (.iload 6, 2) := by decide +kernel
theorem dX11_rowAt_19 : decode cX11_rowAt 19 = .ok (.invokestatic 164, 3) := by decide +kernel
theorem dX11_rowAt_22 : decode cX11_rowAt 22 = .ok (.ifCond .eq 20, 3) := by decide +kernel
theorem dX11_rowAt_25 : decode cX11_rowAt 25 = .ok (.aload_n 0, 1) := by decide +kernel
theorem dX11_rowAt_26 : decode cX11_rowAt 26 = .ok (.iload_n 1, 1) := by decide +kernel
theorem dX11_rowAt_27 : decode cX11_rowAt 27 = .ok (.lload_n 2, 1) := by decide +kernel
theorem dX11_rowAt_28 : decode cX11_rowAt 28 = .ok (.iload 4, 2) := by decide +kernel
theorem dX11_rowAt_30 : decode cX11_rowAt 30 = .ok (.iload 6, 2) := by decide +kernel
theorem dX11_rowAt_32 : decode cX11_rowAt 32 = .ok (.invokevirtual 233, 3) := by decide +kernel
theorem dX11_rowAt_35 : decode cX11_rowAt 35 = .ok (.ifCond .eq 7, 3) := by decide +kernel
theorem dX11_rowAt_38 : decode cX11_rowAt 38 = .ok (.iconst 1, 1) := by decide +kernel
theorem dX11_rowAt_39 : decode cX11_rowAt 39 = .ok (.goto 4, 3) := by decide +kernel
theorem dX11_rowAt_42 : decode cX11_rowAt 42 = .ok (.iconst 0, 1) := by decide +kernel
theorem dX11_rowAt_43 : decode cX11_rowAt 43 = .ok (.iadd, 1) := by decide +kernel
theorem dX11_rowAt_44 : decode cX11_rowAt 44 = .ok (.istore 5, 2) := by decide +kernel
theorem dX11_rowAt_46 : decode cX11_rowAt 46 = .ok (.iinc 6 1, 3) := by decide +kernel
theorem dX11_rowAt_49 : decode cX11_rowAt 49 = .ok (.goto (-43), 3) := by decide +kernel
theorem dX11_rowAt_52 : decode cX11_rowAt 52 = .ok (.iload 5, 2) := by decide +kernel
theorem dX11_rowAt_54 : decode cX11_rowAt 54 = .ok (.ireturn, 1) := by decide +kernel
theorem dX11_row_0 : decode cX11_row 0 = .ok (.aload_n 0, 1) := by decide +kernel
theorem dX11_row_1 : decode cX11_row 1 = .ok (.iload_n 1, 1) := by decide +kernel
theorem dX11_row_2 : decode cX11_row 2 = .ok (.invokevirtual 244, 3) := by decide +kernel
theorem dX11_row_5 : decode cX11_row 5 = .ok (.ifCond .ne 6, 3) := by decide +kernel
theorem dX11_row_8 : decode cX11_row 8 = .ok (.bipush (-2), 2) := by decide +kernel
theorem dX11_row_10 : decode cX11_row 10 = .ok (.ireturn, 1) := by decide +kernel
theorem dX11_row_11 : decode cX11_row 11 = .ok (.aload_n 0, 1) := by decide +kernel
theorem dX11_row_12 : decode cX11_row 12 = .ok (.aload_n 0, 1) := by decide +kernel
theorem dX11_row_13 : decode cX11_row 13 = .ok (.getfield 98, 3) := by decide +kernel
theorem dX11_row_16 : decode cX11_row 16 = .ok (.invokevirtual 171, 3) := by decide +kernel
theorem dX11_row_19 : decode cX11_row 19 = .ok (.aload_n 0, 1) := by decide +kernel
theorem dX11_row_20 : decode cX11_row 20 = .ok (.aload_n 0, 1) := by decide +kernel
theorem dX11_row_21 : decode cX11_row 21 = .ok (.getfield 98, 3) := by decide +kernel
theorem dX11_row_24 : decode cX11_row 24 = .ok (.aload_n 0, 1) := by decide +kernel
theorem dX11_row_25 : decode cX11_row 25 = .ok (.getfield 105, 3) := by decide +kernel
theorem dX11_row_28 : decode cX11_row 28 = .ok (.iload_n 1, 1) := by decide +kernel
theorem dX11_row_29 : decode cX11_row 29 = .ok (.invokevirtual 251, 3) := by decide +kernel
theorem dX11_row_32 : decode cX11_row 32 = .ok (.ireturn, 1) := by decide +kernel
theorem dX11_isWay_0 : decode cX11_isWay 0 = .ok (.iload_n 1, 1) := by decide +kernel
theorem dX11_isWay_1 : decode cX11_isWay 1 = .ok (.iload_n 3, 1) := by decide +kernel
theorem dX11_isWay_2 : decode cX11_isWay 2 = .ok (.iadd, 1) := by decide +kernel
theorem dX11_isWay_3 : decode cX11_isWay 3 = .ok (.aload_n 0, 1) := by decide +kernel
theorem dX11_isWay_4 : decode cX11_isWay 4 = .ok (.getfield 98, 3) := by decide +kernel
theorem dX11_isWay_7 : decode cX11_isWay 7 = .ok (.irem, 1) := by decide +kernel
theorem dX11_isWay_8 : decode cX11_isWay 8 = .ok (.istore 5, 2) := by decide +kernel
theorem dX11_isWay_10 : decode cX11_isWay 10 = .ok (.iload 5, 2) := by decide +kernel
theorem dX11_isWay_12 : decode cX11_isWay 12 = .ok (.iload_n 2, 1) := by decide +kernel
theorem dX11_isWay_13 : decode cX11_isWay 13 = .ok (.if_icmp .ne 26, 3) := by decide +kernel
theorem dX11_isWay_16 : decode cX11_isWay 16 = .ok (.aload_n 0, 1) := by decide +kernel
theorem dX11_isWay_17 : decode cX11_isWay 17 = .ok (.dup, 1) := by decide +kernel
theorem dX11_isWay_18 : decode cX11_isWay 18 = .ok (.getfield 255, 3) := by decide +kernel
theorem dX11_isWay_21 : decode cX11_isWay 21 = .ok (.iconst 1, 1) := by decide +kernel
theorem dX11_isWay_22 : decode cX11_isWay 22 = .ok (.isub, 1) := by decide +kernel
theorem dX11_isWay_23 : decode cX11_isWay 23 = .ok (.putfield 255, 3) := by decide +kernel
theorem dX11_isWay_26 : decode cX11_isWay 26 = .ok (.aload_n 0, 1) := by decide +kernel
theorem dX11_isWay_27 : decode cX11_isWay 27 = .ok (.getfield 255, 3) := by decide +kernel
theorem dX11_isWay_30 : decode cX11_isWay 30 = .ok (.ifCond .ge 7, 3) := by decide +kernel
theorem dX11_isWay_33 : decode cX11_isWay 33 = .ok (.iconst 1, 1) := by decide +kernel
theorem dX11_isWay_34 : decode cX11_isWay 34 = .ok (.goto 4, 3) := by decide +kernel
theorem dX11_isWay_37 : decode cX11_isWay 37 = .ok (.iconst 0, 1) := by decide +kernel
theorem dX11_isWay_38 : decode cX11_isWay 38 = .ok (.ireturn, 1) := by decide +kernel
theorem dX11_isWay_39 : decode cX11_isWay 39 = .ok (.iconst 0, 1) := by decide +kernel
theorem dX11_isWay_40 : decode cX11_isWay 40 = .ok (.istore 6, 2) := by decide +kernel
theorem dX11_isWay_42 : decode cX11_isWay 42 = .ok (.iload 6, 2) := by decide +kernel
theorem dX11_isWay_44 : decode cX11_isWay 44 = .ok (.aload_n 0, 1) := by decide +kernel
theorem dX11_isWay_45 : decode cX11_isWay 45 = .ok (.getfield 98, 3) := by decide +kernel
theorem dX11_isWay_48 : decode cX11_isWay 48 = .ok (.iconst 2, 1) := by decide +kernel
theorem dX11_isWay_49 : decode cX11_isWay 49 = .ok (.isub, 1) := by decide +kernel
theorem dX11_isWay_50 : decode cX11_isWay 50 = .ok (.if_icmp .ge 64, 3) := by decide +kernel
theorem dX11_isWay_53 : decode cX11_isWay 53 = .ok (.iload 4, 2) := by decide +kernel
theorem dX11_isWay_55 : decode cX11_isWay 55 = .ok (.iload 6, 2) := by decide +kernel
theorem dX11_isWay_57 : decode cX11_isWay 57 = .ok (.ishr, 1) := by decide +kernel
theorem dX11_isWay_58 : decode cX11_isWay 58 = .ok (.iconst 1, 1) := by decide +kernel
theorem dX11_isWay_59 : decode cX11_isWay 59 = .ok (.iand, 1) := by decide +kernel
theorem dX11_isWay_60 : decode cX11_isWay 60 = .ok (.iconst 1, 1) := by decide +kernel
theorem dX11_isWay_61 : decode cX11_isWay 61 = .ok (.if_icmp .eq 47, 3) := by decide +kernel
theorem dX11_isWay_64 : decode cX11_isWay 64 = .ok (.aload_n 0, 1) := by decide +kernel
theorem dX11_isWay_65 : decode cX11_isWay 65 = .ok (.iload 6, 2) := by decide +kernel
theorem dX11_isWay_67 : decode cX11_isWay 67 = .ok (.iload 5, 2) := by decide +kernel
theorem dX11_isWay_69 : decode cX11_isWay 69 = .ok (.invokevirtual 258, 3) := by decide +kernel
theorem dX11_isWay_72 : decode cX11_isWay 72 = .ok (.ifCond .ne 6, 3) := by decide +kernel
theorem dX11_isWay_75 : decode cX11_isWay 75 = .ok (.goto 33, 3) := by decide +kernel
theorem dX11_isWay_78 : decode cX11_isWay 78 = .ok (.aload_n 0, 1) := by decide +kernel
theorem dX11_isWay_79 : decode cX11_isWay 79 = .ok (.getfield 43, 3) := by decide +kernel
theorem dX11_isWay_82 : decode cX11_isWay 82 = .ok (.iload 5, 2) := by decide +kernel
theorem dX11_isWay_84 : decode cX11_isWay 84 = .ok (.iload 6, 2) := by decide +kernel
theorem dX11_isWay_86 : decode cX11_isWay 86 = .ok (.iastore, 1) := by decide +kernel
theorem dX11_isWay_87 : decode cX11_isWay 87 = .ok (.aload_n 0, 1) := by decide +kernel
theorem dX11_isWay_88 : decode cX11_isWay 88 = .ok (.iload_n 1, 1) := by decide +kernel
theorem dX11_isWay_89 : decode cX11_isWay 89 = .ok (.iload_n 2, 1) := by decide +kernel
theorem dX11_isWay_90 : decode cX11_isWay 90 = .ok (.iload_n 3, 1) := by decide +kernel
theorem dX11_isWay_91 : decode cX11_isWay 91 = .ok (.iconst 1, 1) := by decide +kernel
theorem dX11_isWay_92 : decode cX11_isWay 92 = .ok (.iadd, 1) := by decide +kernel
theorem dX11_isWay_93 : decode cX11_isWay 93 = .ok (.iload 4, 2) := by decide +kernel
theorem dX11_isWay_95 : decode cX11_isWay 95 = .ok (.iconst 1, 1) := by decide +kernel
theorem dX11_isWay_96 : decode cX11_isWay 96 = .ok (.iload 6, 2) := by decide +kernel
theorem dX11_isWay_98 : decode cX11_isWay 98 = .ok (.ishl, 1) := by decide +kernel
theorem dX11_isWay_99 : decode cX11_isWay 99 = .ok (.ior, 1) := by decide +kernel
theorem dX11_isWay_100 : decode cX11_isWay 100 = .ok (.invokevirtual 262, 3) := by decide +kernel
theorem dX11_isWay_103 : decode cX11_isWay 103 = .ok (.ifCond .eq 5, 3) := by decide +kernel
theorem dX11_isWay_106 : decode cX11_isWay 106 = .ok (.iconst 1, 1) := by decide +kernel
theorem dX11_isWay_107 : decode cX11_isWay 107 = .ok (.ireturn, 1) := by decide +kernel
theorem dX11_isWay_108 : decode cX11_isWay 108 = .ok (.iinc 6 1, 3) := by decide +kernel
theorem dX11_isWay_111 : decode cX11_isWay 111 = .ok (.goto (-69), 3) := by decide +kernel
theorem dX11_isWay_114 : decode cX11_isWay 114 = .ok (.iconst 0, 1) := by decide +kernel
theorem dX11_isWay_115 : decode cX11_isWay 115 = .ok (.ireturn, 1) := by decide +kernel
theorem dX11_way_0 : decode cX11_way 0 = .ok (.aload_n 0, 1) := by decide +kernel
theorem dX11_way_1 : decode cX11_way 1 = .ok (.iload_n 1, 1) := by decide +kernel
theorem dX11_way_2 : decode cX11_way 2 = .ok (.invokevirtual 244, 3) := by decide +kernel
theorem dX11_way_5 : decode cX11_way 5 = .ok (.ifCond .eq 29, 3) := by decide +kernel
theorem dX11_way_8 : decode cX11_way 8 = .ok (.aload_n 0, 1) := by decide +kernel
theorem dX11_way_9 : decode cX11_way 9 = .ok (.iload_n 2, 1) := by decide +kernel
theorem dX11_way_10 : decode cX11_way 10 = .ok (.invokevirtual 244, 3) := by decide +kernel
theorem dX11_way_13 : decode cX11_way 13 = .ok (.ifCond .eq 21, 3) := by decide +kernel
theorem dX11_way_16 : decode cX11_way 16 = .ok (.iload_n 1, 1) := by decide +kernel
theorem dX11_way_17 : decode cX11_way 17 = .ok (.iload_n 2, 1) := by decide +kernel
theorem dX11_way_18 : decode cX11_way 18 = .ok (.if_icmp .eq 16, 3) := by decide +kernel
theorem dX11_way_21 : decode cX11_way 21 = .ok (.aload_n 0, 1) := by decide +kernel
theorem dX11_way_22 : decode cX11_way 22 = .ok (.iload 4, 2) := by decide +kernel
theorem dX11_way_24 : decode cX11_way 24 = .ok (.invokevirtual 244, 3) := by decide +kernel
theorem dX11_way_27 : decode cX11_way 27 = .ok (.ifCond .eq 7, 3) := by decide +kernel
theorem dX11_way_30 : decode cX11_way 30 = .ok (.iload_n 3, 1) := by decide +kernel
theorem dX11_way_31 : decode cX11_way 31 = .ok (.ifCond .ge 6, 3) := by decide +kernel
theorem dX11_way_34 : decode cX11_way 34 = .ok (.bipush (-2), 2) := by decide +kernel
theorem dX11_way_36 : decode cX11_way 36 = .ok (.ireturn, 1) := by decide +kernel
theorem dX11_way_37 : decode cX11_way 37 = .ok (.aload_n 0, 1) := by decide +kernel
theorem dX11_way_38 : decode cX11_way 38 = .ok (.aload_n 0, 1) := by decide +kernel
theorem dX11_way_39 : decode cX11_way 39 = .ok (.getfield 98, 3) := by decide +kernel
theorem dX11_way_42 : decode cX11_way 42 = .ok (.aload_n 0, 1) := by decide +kernel
theorem dX11_way_43 : decode cX11_way 43 = .ok (.getfield 105, 3) := by decide +kernel
theorem dX11_way_46 : decode cX11_way 46 = .ok (.invokevirtual 237, 3) := by decide +kernel
theorem dX11_way_49 : decode cX11_way 49 = .ok (.aload_n 0, 1) := by decide +kernel
theorem dX11_way_50 : decode cX11_way 50 = .ok (.iload_n 3, 1) := by decide +kernel
theorem dX11_way_51 : decode cX11_way 51 = .ok (.putfield 255, 3) := by decide +kernel
theorem dX11_way_54 : decode cX11_way 54 = .ok (.aload_n 0, 1) := by decide +kernel
theorem dX11_way_55 : decode cX11_way 55 = .ok (.iload_n 1, 1) := by decide +kernel
theorem dX11_way_56 : decode cX11_way 56 = .ok (.iload_n 2, 1) := by decide +kernel
theorem dX11_way_57 : decode cX11_way 57 = .ok (.iconst 1, 1) := by decide +kernel
theorem dX11_way_58 : decode cX11_way 58 = .ok (.iconst 0, 1) := by decide +kernel
theorem dX11_way_59 : decode cX11_way 59 = .ok (.invokevirtual 262, 3) := by decide +kernel
theorem dX11_way_62 : decode cX11_way 62 = .ok (.ifCond .ne 6, 3) := by decide +kernel
theorem dX11_way_65 : decode cX11_way 65 = .ok (.bipush (-2), 2) := by decide +kernel
theorem dX11_way_67 : decode cX11_way 67 = .ok (.ireturn, 1) := by decide +kernel
theorem dX11_way_68 : decode cX11_way 68 = .ok (.aload_n 0, 1) := by decide +kernel
theorem dX11_way_69 : decode cX11_way 69 = .ok (.getfield 98, 3) := by decide +kernel
theorem dX11_way_72 : decode cX11_way 72 = .ok (.iload_n 1, 1) := by decide +kernel
theorem dX11_way_73 : decode cX11_way 73 = .ok (.iload 4, 2) := by decide +kernel
theorem dX11_way_75 : decode cX11_way 75 = .ok (.iload_n 2, 1) := by decide +kernel
theorem dX11_way_76 : decode cX11_way 76 = .ok (.invokestatic 167, 3) := by decide +kernel
theorem dX11_way_79 : decode cX11_way 79 = .ok (.ifCond .eq 13, 3) := by decide +kernel
theorem dX11_way_82 : decode cX11_way 82 = .ok (.aload_n 0, 1) := by decide +kernel
theorem dX11_way_83 : decode cX11_way 83 = .ok (.getfield 43, 3) := by decide +kernel
theorem dX11_way_86 : decode cX11_way 86 = .ok (.iload 4, 2) := by decide +kernel
theorem dX11_way_88 : decode cX11_way 88 = .ok (.iaload, 1) := by decide +kernel
theorem dX11_way_89 : decode cX11_way 89 = .ok (.goto 4, 3) := by decide +kernel
theorem dX11_way_92 : decode cX11_way 92 = .ok (.iconst (-1), 1) := by decide +kernel
theorem dX11_way_93 : decode cX11_way 93 = .ok (.ireturn, 1) := by decide +kernel
theorem dX11_flipped_0 : decode cX11_flipped 0 = .ok (.aload_n 0, 1) := by decide +kernel
theorem dX11_flipped_1 : decode cX11_flipped 1 = .ok (.iconst (-1), 1) := by decide +kernel
theorem dX11_flipped_2 : decode cX11_flipped 2 = .ok (.putfield 265, 3) := by decide +kernel
theorem dX11_flipped_5 : decode cX11_flipped 5 = .ok (.iconst 0, 1) := by decide +kernel
theorem dX11_flipped_6 : decode cX11_flipped 6 = .ok (.istore 6, 2) := by decide +kernel
theorem dX11_flipped_8 : decode cX11_flipped 8 = .ok (.iload 6, 2) := by decide +kernel
theorem dX11_flipped_10 : decode cX11_flipped 10 = .ok (.iload_n 1, 1) := by decide +kernel
theorem dX11_flipped_11 : decode cX11_flipped 11 = .ok (.if_icmp .ge 72, 3) := by decide +kernel
theorem dX11_flipped_14 : decode cX11_flipped 14 = .ok (.iload 6, 2) := by decide +kernel
theorem dX11_flipped_16 : decode cX11_flipped 16 = .ok (.iload 4, 2) := by decide +kernel
theorem dX11_flipped_18 : decode cX11_flipped 18 = .ok (.if_icmp .eq 59, 3) := by decide +kernel
theorem dX11_flipped_21 : decode cX11_flipped 21 = .ok (.iload 6, 2) := by decide +kernel
theorem dX11_flipped_23 : decode cX11_flipped 23 = .ok (.iload 5, 2) := by decide +kernel
theorem dX11_flipped_25 : decode cX11_flipped 25 = .ok (.if_icmp .eq 52, 3) := by decide +kernel
theorem dX11_flipped_28 : decode cX11_flipped 28 = .ok (.aload_n 0, 1) := by decide +kernel
theorem dX11_flipped_29 : decode cX11_flipped 29 = .ok (.iload_n 1, 1) := by decide +kernel
theorem dX11_flipped_30 : decode cX11_flipped 30 = .ok (.lload_n 2, 1) := by decide +kernel
theorem dX11_flipped_31 : decode cX11_flipped 31 = .ok (.iload 6, 2) := by decide +kernel
theorem dX11_flipped_33 : decode cX11_flipped 33 = .ok (.iload 4, 2) := by decide +kernel
theorem dX11_flipped_35 : decode cX11_flipped 35 = .ok (.invokevirtual 233, 3) := by decide +kernel
theorem dX11_flipped_38 : decode cX11_flipped 38 = .ok (.ifCond .eq 39, 3) := by decide +kernel
theorem dX11_flipped_41 : decode cX11_flipped 41 = .ok (.aload_n 0, 1) := by decide +kernel
theorem dX11_flipped_42 : decode cX11_flipped 42 = .ok (.iload_n 1, 1) := by decide +kernel
theorem dX11_flipped_43 : decode cX11_flipped 43 = .ok (.lload_n 2, 1) := by decide +kernel
theorem dX11_flipped_44 : decode cX11_flipped 44 = .ok (.iload 6, 2) := by decide +kernel
theorem dX11_flipped_46 : decode cX11_flipped 46 = .ok (.iload 5, 2) := by decide +kernel
theorem dX11_flipped_48 : decode cX11_flipped 48 = .ok (.invokevirtual 233, 3) := by decide +kernel
theorem dX11_flipped_51 : decode cX11_flipped 51 = .ok (.ifCond .ne 6, 3) := by decide +kernel
theorem dX11_flipped_54 : decode cX11_flipped 54 = .ok (.goto 23, 3) := by decide +kernel
theorem dX11_flipped_57 : decode cX11_flipped 57 = .ok (.aload_n 0, 1) := by decide +kernel
theorem dX11_flipped_58 : decode cX11_flipped 58 = .ok (.getfield 265, 3) := by decide +kernel
theorem dX11_flipped_61 : decode cX11_flipped 61 = .ok (.iconst (-1), 1) := by decide +kernel
theorem dX11_flipped_62 : decode cX11_flipped 62 = .ok (.if_icmp .ne 9, 3) := by decide +kernel
theorem dX11_flipped_65 : decode cX11_flipped 65 = .ok (.aload_n 0, 1) := by decide +kernel
theorem dX11_flipped_66 : decode cX11_flipped 66 = .ok (.iload 6, 2) := by decide +kernel
theorem dX11_flipped_68 : decode cX11_flipped 68 = .ok (.putfield 265, 3) := by decide +kernel
theorem dX11_flipped_71 : decode cX11_flipped 71 = .ok (.aload_n 0, 1) := by decide +kernel
theorem dX11_flipped_72 : decode cX11_flipped 72 = .ok (.iload 6, 2) := by decide +kernel
theorem dX11_flipped_74 : decode cX11_flipped 74 = .ok (.putfield 268, 3) := by decide +kernel
theorem dX11_flipped_77 : decode cX11_flipped 77 = .ok (.iinc 6 1, 3) := by decide +kernel
theorem dX11_flipped_80 : decode cX11_flipped 80 = .ok (.goto (-72), 3) := by decide +kernel
theorem dX11_flipped_83 : decode cX11_flipped 83 = .ok (.lload_n 2, 1) := by decide +kernel
theorem dX11_flipped_84 : decode cX11_flipped 84 = .ok (.lconst 1, 1) := by decide +kernel
theorem dX11_flipped_85 : decode cX11_flipped 85 = .ok (.aload_n 0, 1) := by decide +kernel
theorem dX11_flipped_86 : decode cX11_flipped 86 = .ok (.getfield 17, 3) := by decide +kernel
theorem dX11_flipped_89 : decode cX11_flipped 89 = .ok (.bipush 10, 2) := by decide +kernel
theorem dX11_flipped_91 : decode cX11_flipped 91 = .ok (.iload 4, 2) := by decide +kernel
theorem dX11_flipped_93 : decode cX11_flipped 93 = .ok (.imul, 1) := by decide +kernel
theorem dX11_flipped_94 : decode cX11_flipped 94 = .ok (.iload 5, 2) := by decide +kernel
theorem dX11_flipped_96 : decode cX11_flipped 96 = .ok (.iadd, 1) := by decide +kernel
theorem dX11_flipped_97 : decode cX11_flipped 97 = .ok (.iaload, 1) := by decide +kernel
theorem dX11_flipped_98 : decode cX11_flipped 98 = .ok (.lshl, 1) := by decide +kernel
theorem dX11_flipped_99 : decode cX11_flipped 99 = .ok (.ldc2_w 271, 3) := by decide +kernel
theorem dX11_flipped_102 : decode cX11_flipped 102 = .ok (.lxor, 1) := by decide +kernel
theorem dX11_flipped_103 : decode cX11_flipped 103 = .ok (.land, 1) := by decide +kernel
theorem dX11_flipped_104 : decode cX11_flipped 104 = .ok (.lconst 1, 1) := by decide +kernel
theorem dX11_flipped_105 : decode cX11_flipped 105 = .ok (.aload_n 0, 1) := by decide +kernel
theorem dX11_flipped_106 : decode cX11_flipped 106 = .ok (.getfield 17, 3) := by decide +kernel
theorem dX11_flipped_109 : decode cX11_flipped 109 = .ok (.bipush 10, 2) := by decide +kernel
theorem dX11_flipped_111 : decode cX11_flipped 111 = .ok (.aload_n 0, 1) := by decide +kernel
theorem dX11_flipped_112 : decode cX11_flipped 112 = .ok (.getfield 265, 3) := by decide +kernel
theorem dX11_flipped_115 : decode cX11_flipped 115 = .ok (.imul, 1) := by decide +kernel
theorem dX11_flipped_116 : decode cX11_flipped 116 = .ok (.aload_n 0, 1) := by decide +kernel
theorem dX11_flipped_117 : decode cX11_flipped 117 = .ok (.getfield 268, 3) := by decide +kernel
theorem dX11_flipped_120 : decode cX11_flipped 120 = .ok (.iadd, 1) := by decide +kernel
theorem dX11_flipped_121 : decode cX11_flipped 121 = .ok (.iaload, 1) := by decide +kernel
theorem dX11_flipped_122 : decode cX11_flipped 122 = .ok (.lshl, 1) := by decide +kernel
theorem dX11_flipped_123 : decode cX11_flipped 123 = .ok (.lor, 1) := by decide +kernel
theorem dX11_flipped_124 : decode cX11_flipped 124 = .ok (.lreturn, 1) := by decide +kernel
theorem dX11_flip_0 : decode cX11_flip 0 = .ok (.aload_n 0, 1) := by decide +kernel
theorem dX11_flip_1 : decode cX11_flip 1 = .ok (.iload_n 1, 1) := by decide +kernel
theorem dX11_flip_2 : decode cX11_flip 2 = .ok (.invokevirtual 244, 3) := by decide +kernel
theorem dX11_flip_5 : decode cX11_flip 5 = .ok (.ifCond .eq 11, 3) := by decide +kernel
theorem dX11_flip_8 : decode cX11_flip 8 = .ok (.aload_n 0, 1) := by decide +kernel
theorem dX11_flip_9 : decode cX11_flip 9 = .ok (.iload_n 2, 1) := by decide +kernel
theorem dX11_flip_10 : decode cX11_flip 10 = .ok (.invokevirtual 244, 3) := by decide +kernel
theorem dX11_flip_13 : decode cX11_flip 13 = .ok (.ifCond .ne 6, 3) := by decide +kernel
theorem dX11_flip_16 : decode cX11_flip 16 = .ok (.bipush (-2), 2) := by decide +kernel
theorem dX11_flip_18 : decode cX11_flip 18 = .ok (.ireturn, 1) := by decide +kernel
theorem dX11_flip_19 : decode cX11_flip 19 = .ok (.aload_n 0, 1) := by decide +kernel
theorem dX11_flip_20 : decode cX11_flip 20 = .ok (.aload_n 0, 1) := by decide +kernel
theorem dX11_flip_21 : decode cX11_flip 21 = .ok (.getfield 98, 3) := by decide +kernel
theorem dX11_flip_24 : decode cX11_flip 24 = .ok (.invokevirtual 171, 3) := by decide +kernel
theorem dX11_flip_27 : decode cX11_flip 27 = .ok (.aload_n 0, 1) := by decide +kernel
theorem dX11_flip_28 : decode cX11_flip 28 = .ok (.getfield 98, 3) := by decide +kernel
theorem dX11_flip_31 : decode cX11_flip 31 = .ok (.iload_n 1, 1) := by decide +kernel
theorem dX11_flip_32 : decode cX11_flip 32 = .ok (.iload_n 2, 1) := by decide +kernel
theorem dX11_flip_33 : decode cX11_flip 33 = .ok (.invokestatic 164, 3) := by decide +kernel
theorem dX11_flip_36 : decode cX11_flip 36 = .ok (.ifCond .eq 20, 3) := by decide +kernel
theorem dX11_flip_39 : decode cX11_flip 39 = .ok (.aload_n 0, 1) := by decide +kernel
theorem dX11_flip_40 : decode cX11_flip 40 = .ok (.aload_n 0, 1) := by decide +kernel
theorem dX11_flip_41 : decode cX11_flip 41 = .ok (.getfield 98, 3) := by decide +kernel
theorem dX11_flip_44 : decode cX11_flip 44 = .ok (.aload_n 0, 1) := by decide +kernel
theorem dX11_flip_45 : decode cX11_flip 45 = .ok (.getfield 105, 3) := by decide +kernel
theorem dX11_flip_48 : decode cX11_flip 48 = .ok (.iload_n 1, 1) := by decide +kernel
theorem dX11_flip_49 : decode cX11_flip 49 = .ok (.iload_n 2, 1) := by decide +kernel
theorem dX11_flip_50 : decode cX11_flip 50 = .ok (.invokevirtual 233, 3) := by decide +kernel
theorem dX11_flip_53 : decode cX11_flip 53 = .ok (.ifCond .ne 5, 3) := by decide +kernel
theorem dX11_flip_56 : decode cX11_flip 56 = .ok (.iconst (-1), 1) := by decide +kernel
theorem dX11_flip_57 : decode cX11_flip 57 = .ok (.ireturn, 1) := by decide +kernel
theorem dX11_flip_58 : decode cX11_flip 58 = .ok (.aload_n 0, 1) := by decide +kernel
theorem dX11_flip_59 : decode cX11_flip 59 = .ok (.aload_n 0, 1) := by decide +kernel
theorem dX11_flip_60 : decode cX11_flip 60 = .ok (.aload_n 0, 1) := by decide +kernel
theorem dX11_flip_61 : decode cX11_flip 61 = .ok (.getfield 98, 3) := by decide +kernel
theorem dX11_flip_64 : decode cX11_flip 64 = .ok (.aload_n 0, 1) := by decide +kernel
theorem dX11_flip_65 : decode cX11_flip 65 = .ok (.getfield 105, 3) := by decide +kernel
theorem dX11_flip_68 : decode cX11_flip 68 = .ok (.iload_n 1, 1) := by decide +kernel
theorem dX11_flip_69 : decode cX11_flip 69 = .ok (.iload_n 2, 1) := by decide +kernel
theorem dX11_flip_70 : decode cX11_flip 70 = .ok (.invokevirtual 273, 3) := by decide +kernel
theorem dX11_flip_73 : decode cX11_flip 73 = .ok (.putfield 105, 3) := by decide +kernel
theorem dX11_flip_76 : decode cX11_flip 76 = .ok (.bipush 16, 2) := by decide +kernel
theorem dX11_flip_78 : decode cX11_flip 78 = .ok (.aload_n 0, 1) := by decide +kernel
theorem dX11_flip_79 : decode cX11_flip 79 = .ok (.getfield 265, 3) := by decide +kernel
theorem dX11_flip_82 : decode cX11_flip 82 = .ok (.imul, 1) := by decide +kernel
theorem dX11_flip_83 : decode cX11_flip 83 = .ok (.aload_n 0, 1) := by decide +kernel
theorem dX11_flip_84 : decode cX11_flip 84 = .ok (.getfield 268, 3) := by decide +kernel
theorem dX11_flip_87 : decode cX11_flip 87 = .ok (.iadd, 1) := by decide +kernel
theorem dX11_flip_88 : decode cX11_flip 88 = .ok (.ireturn, 1) := by decide +kernel
theorem dX11_spreadFrom_0 : decode cX11_spreadFrom 0 = .ok (.iconst 0, 1) := by decide +kernel
theorem dX11_spreadFrom_1 : decode cX11_spreadFrom 1 = .ok (.istore_n 2, 1) := by decide +kernel
theorem dX11_spreadFrom_2 : decode cX11_spreadFrom 2 = .ok (.iload_n 2, 1) := by decide +kernel
theorem dX11_spreadFrom_3 : decode cX11_spreadFrom 3 = .ok (.aload_n 0, 1) := by decide +kernel
theorem dX11_spreadFrom_4 : decode cX11_spreadFrom 4 = .ok (.getfield 177, 3) := by decide +kernel
theorem dX11_spreadFrom_7 : decode cX11_spreadFrom 7 = .ok (.if_icmp .ge 16, 3) := by decide +kernel
theorem dX11_spreadFrom_10 : decode cX11_spreadFrom 10 = .ok (.aload_n 0, 1) := by decide +kernel
theorem dX11_spreadFrom_11 : decode cX11_spreadFrom 11 = .ok (.getfield 46, 3) := by decide +kernel
theorem dX11_spreadFrom_14 : decode cX11_spreadFrom 14 = .ok (.iload_n 2, 1) := by decide +kernel
theorem dX11_spreadFrom_15 : decode cX11_spreadFrom 15 = .ok (.iconst (-1), 1) := by decide +kernel
theorem dX11_spreadFrom_16 : decode cX11_spreadFrom 16 = .ok (.iastore, 1) := by decide +kernel
theorem dX11_spreadFrom_17 : decode cX11_spreadFrom 17 = .ok (.iinc 2 1, 3) := by decide +kernel
theorem dX11_spreadFrom_20 : decode cX11_spreadFrom 20 = .ok (.goto (-18), 3) := by decide +kernel
theorem dX11_spreadFrom_23 : decode cX11_spreadFrom 23 = .ok (.aload_n 0, 1) := by decide +kernel
theorem dX11_spreadFrom_24 : decode cX11_spreadFrom 24 = .ok (.getfield 46, 3) := by decide +kernel
theorem dX11_spreadFrom_27 : decode cX11_spreadFrom 27 = .ok (.iload_n 1, 1) := by decide +kernel
theorem dX11_spreadFrom_28 : decode cX11_spreadFrom 28 = .ok (.iconst 0, 1) := by decide +kernel
theorem dX11_spreadFrom_29 : decode cX11_spreadFrom 29 = .ok (.iastore, 1) := by decide +kernel
theorem dX11_spreadFrom_30 : decode cX11_spreadFrom 30 = .ok (.aload_n 0, 1) := by decide +kernel
theorem dX11_spreadFrom_31 : decode cX11_spreadFrom 31 = .ok (.getfield 49, 3) := by decide +kernel
theorem dX11_spreadFrom_34 : decode cX11_spreadFrom 34 = .ok (.iconst 0, 1) := by decide +kernel
theorem dX11_spreadFrom_35 : decode cX11_spreadFrom 35 = .ok (.iload_n 1, 1) := by decide +kernel
theorem dX11_spreadFrom_36 : decode cX11_spreadFrom 36 = .ok (.iastore, 1) := by decide +kernel
theorem dX11_spreadFrom_37 : decode cX11_spreadFrom 37 = .ok (.iconst 1, 1) := by decide +kernel
theorem dX11_spreadFrom_38 : decode cX11_spreadFrom 38 = .ok (.istore_n 2, 1) := by decide +kernel
theorem dX11_spreadFrom_39 : decode cX11_spreadFrom 39 = .ok (.iconst 0, 1) := by decide +kernel
theorem dX11_spreadFrom_40 : decode cX11_spreadFrom 40 = .ok (.istore_n 3, 1) := by decide +kernel
theorem dX11_spreadFrom_41 : decode cX11_spreadFrom 41 = .ok (.iload_n 3, 1) := by decide +kernel
theorem dX11_spreadFrom_42 : decode cX11_spreadFrom 42 = .ok (.iload_n 2, 1) := by decide +kernel
theorem dX11_spreadFrom_43 : decode cX11_spreadFrom 43 = .ok (.if_icmp .ge 130, 3) := by decide +kernel
theorem dX11_spreadFrom_46 : decode cX11_spreadFrom 46 = .ok (.aload_n 0, 1) := by decide +kernel
theorem dX11_spreadFrom_47 : decode cX11_spreadFrom 47 = .ok (.getfield 27, 3) := by decide +kernel
theorem dX11_spreadFrom_50 : decode cX11_spreadFrom 50 = .ok (.aload_n 0, 1) := by decide +kernel
theorem dX11_spreadFrom_51 : decode cX11_spreadFrom 51 = .ok (.getfield 49, 3) := by decide +kernel
theorem dX11_spreadFrom_54 : decode cX11_spreadFrom 54 = .ok (.iload_n 3, 1) := by decide +kernel
theorem dX11_spreadFrom_55 : decode cX11_spreadFrom 55 = .ok (.iaload, 1) := by decide +kernel
theorem dX11_spreadFrom_56 : decode cX11_spreadFrom 56 = .ok (.laload, 1) := by decide +kernel
theorem dX11_spreadFrom_57 : decode cX11_spreadFrom 57 = .ok (.lstore 4, 2) := by decide +kernel
theorem dX11_spreadFrom_59 : decode cX11_spreadFrom 59 = .ok (.iconst 0, 1) := by decide +kernel
theorem dX11_spreadFrom_60 : decode cX11_spreadFrom 60 = .ok (.istore 6, 2) := by decide +kernel
theorem dX11_spreadFrom_62 : decode cX11_spreadFrom 62 = .ok (.iload 6, 2) := by decide +kernel
theorem dX11_spreadFrom_64 : decode cX11_spreadFrom 64 = .ok (.aload_n 0, 1) := by decide +kernel
theorem dX11_spreadFrom_65 : decode cX11_spreadFrom 65 = .ok (.getfield 161, 3) := by decide +kernel
theorem dX11_spreadFrom_68 : decode cX11_spreadFrom 68 = .ok (.if_icmp .ge 99, 3) := by decide +kernel
theorem dX11_spreadFrom_71 : decode cX11_spreadFrom 71 = .ok (.lload 4, 2) := by decide +kernel
theorem dX11_spreadFrom_73 : decode cX11_spreadFrom 73 = .ok (.iload 6, 2) := by decide +kernel
theorem dX11_spreadFrom_75 : decode cX11_spreadFrom 75 = .ok (.lshr, 1) := by decide +kernel
theorem dX11_spreadFrom_76 : decode cX11_spreadFrom 76 = .ok (.lconst 1, 1) := by decide +kernel
theorem dX11_spreadFrom_77 : decode cX11_spreadFrom 77 = .ok (.land, 1) := by decide +kernel
theorem dX11_spreadFrom_78 : decode cX11_spreadFrom 78 = .ok (.lconst 0, 1) := by decide +kernel
theorem dX11_spreadFrom_79 : decode cX11_spreadFrom 79 = .ok (.lcmp, 1) := by decide +kernel
theorem dX11_spreadFrom_80 : decode cX11_spreadFrom 80 = .ok (.ifCond .ne 6, 3) := by decide +kernel
theorem dX11_spreadFrom_83 : decode cX11_spreadFrom 83 = .ok (.goto 78, 3) := by decide +kernel
theorem dX11_spreadFrom_86 : decode cX11_spreadFrom 86 = .ok (.aload_n 0, 1) := by decide +kernel
theorem dX11_spreadFrom_87 : decode cX11_spreadFrom 87 = .ok (.aload_n 0, 1) := by decide +kernel
theorem dX11_spreadFrom_88 : decode cX11_spreadFrom 88 = .ok (.aload_n 0, 1) := by decide +kernel
theorem dX11_spreadFrom_89 : decode cX11_spreadFrom 89 = .ok (.getfield 98, 3) := by decide +kernel
theorem dX11_spreadFrom_92 : decode cX11_spreadFrom 92 = .ok (.lload 4, 2) := by decide +kernel
