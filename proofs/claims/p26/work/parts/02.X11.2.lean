theorem dX11_spreadFrom_94 : decode cX11_spreadFrom 94 = .ok (.aload_n 0, 1) := by decide +kernel
theorem dX11_spreadFrom_95 : decode cX11_spreadFrom 95 = .ok (.getfield 21, 3) := by decide +kernel
theorem dX11_spreadFrom_98 : decode cX11_spreadFrom 98 = .ok (.iload 6, 2) := by decide +kernel
theorem dX11_spreadFrom_100 : decode cX11_spreadFrom 100 = .ok (.iaload, 1) := by decide +kernel
theorem dX11_spreadFrom_101 : decode cX11_spreadFrom 101 = .ok (.aload_n 0, 1) := by decide +kernel
theorem dX11_spreadFrom_102 : decode cX11_spreadFrom 102 = .ok (.getfield 24, 3) := by decide +kernel
theorem dX11_spreadFrom_105 : decode cX11_spreadFrom 105 = .ok (.iload 6, 2) := by decide +kernel
theorem dX11_spreadFrom_107 : decode cX11_spreadFrom 107 = .ok (.iaload, 1) := by decide +kernel
theorem dX11_spreadFrom_108 : decode cX11_spreadFrom 108 = .ok (.invokevirtual 273, 3) := by decide +kernel
theorem dX11_spreadFrom_111 : decode cX11_spreadFrom 111 = .ok (.invokevirtual 188, 3) := by decide +kernel
theorem dX11_spreadFrom_114 : decode cX11_spreadFrom 114 = .ok (.istore 7, 2) := by decide +kernel
theorem dX11_spreadFrom_116 : decode cX11_spreadFrom 116 = .ok (.aload_n 0, 1) := by decide +kernel
theorem dX11_spreadFrom_117 : decode cX11_spreadFrom 117 = .ok (.getfield 46, 3) := by decide +kernel
theorem dX11_spreadFrom_120 : decode cX11_spreadFrom 120 = .ok (.iload 7, 2) := by decide +kernel
theorem dX11_spreadFrom_122 : decode cX11_spreadFrom 122 = .ok (.iaload, 1) := by decide +kernel
theorem dX11_spreadFrom_123 : decode cX11_spreadFrom 123 = .ok (.iconst (-1), 1) := by decide +kernel
theorem dX11_spreadFrom_124 : decode cX11_spreadFrom 124 = .ok (.if_icmp .eq 6, 3) := by decide +kernel
theorem dX11_spreadFrom_127 : decode cX11_spreadFrom 127 = .ok (.goto 34, 3) := by decide +kernel
theorem dX11_spreadFrom_130 : decode cX11_spreadFrom 130 = .ok (.aload_n 0, 1) := by decide +kernel
theorem dX11_spreadFrom_131 : decode cX11_spreadFrom 131 = .ok (.getfield 46, 3) := by decide +kernel
theorem dX11_spreadFrom_134 : decode cX11_spreadFrom 134 = .ok (.iload 7, 2) := by decide +kernel
theorem dX11_spreadFrom_136 : decode cX11_spreadFrom 136 = .ok (.aload_n 0, 1) := by decide +kernel
theorem dX11_spreadFrom_137 : decode cX11_spreadFrom 137 = .ok (.getfield 46, 3) := by decide +kernel
theorem dX11_spreadFrom_140 : decode cX11_spreadFrom 140 = .ok (.aload_n 0, 1) := by decide +kernel
theorem dX11_spreadFrom_141 : decode cX11_spreadFrom 141 = .ok (.getfield 49, 3) := by decide +kernel
theorem dX11_spreadFrom_144 : decode cX11_spreadFrom 144 = .ok (.iload_n 3, 1) := by decide +kernel
theorem dX11_spreadFrom_145 : decode cX11_spreadFrom 145 = .ok (.iaload, 1) := by decide +kernel
theorem dX11_spreadFrom_146 : decode cX11_spreadFrom 146 = .ok (.iaload, 1) := by decide +kernel
theorem dX11_spreadFrom_147 : decode cX11_spreadFrom 147 = .ok (.iconst 1, 1) := by decide +kernel
theorem dX11_spreadFrom_148 : decode cX11_spreadFrom 148 = .ok (.iadd, 1) := by decide +kernel
theorem dX11_spreadFrom_149 : decode cX11_spreadFrom 149 = .ok (.iastore, 1) := by decide +kernel
theorem dX11_spreadFrom_150 : decode cX11_spreadFrom 150 = .ok (.aload_n 0, 1) := by decide +kernel
theorem dX11_spreadFrom_151 : decode cX11_spreadFrom 151 = .ok (.getfield 49, 3) := by decide +kernel
theorem dX11_spreadFrom_154 : decode cX11_spreadFrom 154 = .ok (.iload_n 2, 1) := by decide +kernel
theorem dX11_spreadFrom_155 : decode cX11_spreadFrom 155 = .ok (.iload 7, 2) := by decide +kernel
theorem dX11_spreadFrom_157 : decode cX11_spreadFrom 157 = .ok (.iastore, 1) := by decide +kernel
theorem dX11_spreadFrom_158 : decode cX11_spreadFrom 158 = .ok (.iinc 2 1, 3) := by decide +kernel
theorem dX11_spreadFrom_161 : decode cX11_spreadFrom 161 = .ok (.iinc 6 1, 3) := by decide +kernel
theorem dX11_spreadFrom_164 : decode cX11_spreadFrom 164 = .ok (.goto (-102), 3) := by decide +kernel
theorem dX11_spreadFrom_167 : decode cX11_spreadFrom 167 = .ok (.iinc 3 1, 3) := by decide +kernel
theorem dX11_spreadFrom_170 : decode cX11_spreadFrom 170 = .ok (.goto (-129), 3) := by decide +kernel
theorem dX11_spreadFrom_173 : decode cX11_spreadFrom 173 = .ok (.return_, 1) := by decide +kernel
theorem dX11_fewest_0 : decode cX11_fewest 0 = .ok (.aload_n 0, 1) := by decide +kernel
theorem dX11_fewest_1 : decode cX11_fewest 1 = .ok (.aload_n 0, 1) := by decide +kernel
theorem dX11_fewest_2 : decode cX11_fewest 2 = .ok (.getfield 98, 3) := by decide +kernel
theorem dX11_fewest_5 : decode cX11_fewest 5 = .ok (.invokevirtual 101, 3) := by decide +kernel
theorem dX11_fewest_8 : decode cX11_fewest 8 = .ok (.iload_n 1, 1) := by decide +kernel
theorem dX11_fewest_9 : decode cX11_fewest 9 = .ok (.iconst 0, 1) := by decide +kernel
theorem dX11_fewest_10 : decode cX11_fewest 10 = .ok (.aload_n 0, 1) := by decide +kernel
theorem dX11_fewest_11 : decode cX11_fewest 11 = .ok (.getfield 177, 3) := by decide +kernel
theorem dX11_fewest_14 : decode cX11_fewest 14 = .ok (.iconst 1, 1) := by decide +kernel
theorem dX11_fewest_15 : decode cX11_fewest 15 = .ok (.isub, 1) := by decide +kernel
theorem dX11_fewest_16 : decode cX11_fewest 16 = .ok (.invokestatic 207, 3) := by decide +kernel
theorem dX11_fewest_19 : decode cX11_fewest 19 = .ok (.ifCond .ne 6, 3) := by decide +kernel
theorem dX11_fewest_22 : decode cX11_fewest 22 = .ok (.bipush (-2), 2) := by decide +kernel
theorem dX11_fewest_24 : decode cX11_fewest 24 = .ok (.ireturn, 1) := by decide +kernel
theorem dX11_fewest_25 : decode cX11_fewest 25 = .ok (.aload_n 0, 1) := by decide +kernel
theorem dX11_fewest_26 : decode cX11_fewest 26 = .ok (.iload_n 1, 1) := by decide +kernel
theorem dX11_fewest_27 : decode cX11_fewest 27 = .ok (.invokevirtual 277, 3) := by decide +kernel
theorem dX11_fewest_30 : decode cX11_fewest 30 = .ok (.aload_n 0, 1) := by decide +kernel
theorem dX11_fewest_31 : decode cX11_fewest 31 = .ok (.aload_n 0, 1) := by decide +kernel
theorem dX11_fewest_32 : decode cX11_fewest 32 = .ok (.getfield 105, 3) := by decide +kernel
theorem dX11_fewest_35 : decode cX11_fewest 35 = .ok (.invokevirtual 188, 3) := by decide +kernel
theorem dX11_fewest_38 : decode cX11_fewest 38 = .ok (.istore_n 2, 1) := by decide +kernel
theorem dX11_fewest_39 : decode cX11_fewest 39 = .ok (.aload_n 0, 1) := by decide +kernel
theorem dX11_fewest_40 : decode cX11_fewest 40 = .ok (.getfield 46, 3) := by decide +kernel
theorem dX11_fewest_43 : decode cX11_fewest 43 = .ok (.iload_n 2, 1) := by decide +kernel
theorem dX11_fewest_44 : decode cX11_fewest 44 = .ok (.iaload, 1) := by decide +kernel
theorem dX11_fewest_45 : decode cX11_fewest 45 = .ok (.istore_n 3, 1) := by decide +kernel
theorem dX11_fewest_46 : decode cX11_fewest 46 = .ok (.aload_n 0, 1) := by decide +kernel
theorem dX11_fewest_47 : decode cX11_fewest 47 = .ok (.iload_n 3, 1) := by decide +kernel
theorem dX11_fewest_48 : decode cX11_fewest 48 = .ok (.iconst 1, 1) := by decide +kernel
theorem dX11_fewest_49 : decode cX11_fewest 49 = .ok (.iadd, 1) := by decide +kernel
theorem dX11_fewest_50 : decode cX11_fewest 50 = .ok (.putfield 280, 3) := by decide +kernel
theorem dX11_fewest_53 : decode cX11_fewest 53 = .ok (.aload_n 0, 1) := by decide +kernel
theorem dX11_fewest_54 : decode cX11_fewest 54 = .ok (.getfield 52, 3) := by decide +kernel
theorem dX11_fewest_57 : decode cX11_fewest 57 = .ok (.iconst 0, 1) := by decide +kernel
theorem dX11_fewest_58 : decode cX11_fewest 58 = .ok (.iload_n 2, 1) := by decide +kernel
theorem dX11_fewest_59 : decode cX11_fewest 59 = .ok (.iastore, 1) := by decide +kernel
theorem dX11_fewest_60 : decode cX11_fewest 60 = .ok (.iconst 1, 1) := by decide +kernel
theorem dX11_fewest_61 : decode cX11_fewest 61 = .ok (.istore 4, 2) := by decide +kernel
theorem dX11_fewest_63 : decode cX11_fewest 63 = .ok (.iload 4, 2) := by decide +kernel
theorem dX11_fewest_65 : decode cX11_fewest 65 = .ok (.iload_n 3, 1) := by decide +kernel
theorem dX11_fewest_66 : decode cX11_fewest 66 = .ok (.if_icmp .gt 125, 3) := by decide +kernel
theorem dX11_fewest_69 : decode cX11_fewest 69 = .ok (.iconst (-1), 1) := by decide +kernel
theorem dX11_fewest_70 : decode cX11_fewest 70 = .ok (.istore 5, 2) := by decide +kernel
theorem dX11_fewest_72 : decode cX11_fewest 72 = .ok (.aload_n 0, 1) := by decide +kernel
theorem dX11_fewest_73 : decode cX11_fewest 73 = .ok (.getfield 27, 3) := by decide +kernel
theorem dX11_fewest_76 : decode cX11_fewest 76 = .ok (.iload_n 2, 1) := by decide +kernel
theorem dX11_fewest_77 : decode cX11_fewest 77 = .ok (.laload, 1) := by decide +kernel
theorem dX11_fewest_78 : decode cX11_fewest 78 = .ok (.lstore 6, 2) := by decide +kernel
theorem dX11_fewest_80 : decode cX11_fewest 80 = .ok (.iconst 0, 1) := by decide +kernel
theorem dX11_fewest_81 : decode cX11_fewest 81 = .ok (.istore 8, 2) := by decide +kernel
theorem dX11_fewest_83 : decode cX11_fewest 83 = .ok (.iload 8, 2) := by decide +kernel
theorem dX11_fewest_85 : decode cX11_fewest 85 = .ok (.aload_n 0, 1) := by decide +kernel
theorem dX11_fewest_86 : decode cX11_fewest 86 = .ok (.getfield 161, 3) := by decide +kernel
theorem dX11_fewest_89 : decode cX11_fewest 89 = .ok (.if_icmp .ge 85, 3) := by decide +kernel
theorem dX11_fewest_92 : decode cX11_fewest 92 = .ok (.lload 6, 2) := by decide +kernel
theorem dX11_fewest_94 : decode cX11_fewest 94 = .ok (.iload 8, 2) := by decide +kernel
theorem dX11_fewest_96 : decode cX11_fewest 96 = .ok (.lshr, 1) := by decide +kernel
theorem dX11_fewest_97 : decode cX11_fewest 97 = .ok (.lconst 1, 1) := by decide +kernel
theorem dX11_fewest_98 : decode cX11_fewest 98 = .ok (.land, 1) := by decide +kernel
theorem dX11_fewest_99 : decode cX11_fewest 99 = .ok (.lconst 0, 1) := by decide +kernel
theorem dX11_fewest_100 : decode cX11_fewest 100 = .ok (.lcmp, 1) := by decide +kernel
theorem dX11_fewest_101 : decode cX11_fewest 101 = .ok (.ifCond .ne 6, 3) := by decide +kernel
theorem dX11_fewest_104 : decode cX11_fewest 104 = .ok (.goto 64, 3) := by decide +kernel
theorem dX11_fewest_107 : decode cX11_fewest 107 = .ok (.aload_n 0, 1) := by decide +kernel
theorem dX11_fewest_108 : decode cX11_fewest 108 = .ok (.aload_n 0, 1) := by decide +kernel
theorem dX11_fewest_109 : decode cX11_fewest 109 = .ok (.aload_n 0, 1) := by decide +kernel
theorem dX11_fewest_110 : decode cX11_fewest 110 = .ok (.getfield 98, 3) := by decide +kernel
theorem dX11_fewest_113 : decode cX11_fewest 113 = .ok (.lload 6, 2) := by decide +kernel
theorem dX11_fewest_115 : decode cX11_fewest 115 = .ok (.aload_n 0, 1) := by decide +kernel
theorem dX11_fewest_116 : decode cX11_fewest 116 = .ok (.getfield 21, 3) := by decide +kernel
theorem dX11_fewest_119 : decode cX11_fewest 119 = .ok (.iload 8, 2) := by decide +kernel
theorem dX11_fewest_121 : decode cX11_fewest 121 = .ok (.iaload, 1) := by decide +kernel
theorem dX11_fewest_122 : decode cX11_fewest 122 = .ok (.aload_n 0, 1) := by decide +kernel
theorem dX11_fewest_123 : decode cX11_fewest 123 = .ok (.getfield 24, 3) := by decide +kernel
theorem dX11_fewest_126 : decode cX11_fewest 126 = .ok (.iload 8, 2) := by decide +kernel
theorem dX11_fewest_128 : decode cX11_fewest 128 = .ok (.iaload, 1) := by decide +kernel
theorem dX11_fewest_129 : decode cX11_fewest 129 = .ok (.invokevirtual 273, 3) := by decide +kernel
theorem dX11_fewest_132 : decode cX11_fewest 132 = .ok (.invokevirtual 188, 3) := by decide +kernel
theorem dX11_fewest_135 : decode cX11_fewest 135 = .ok (.istore 9, 2) := by decide +kernel
theorem dX11_fewest_137 : decode cX11_fewest 137 = .ok (.aload_n 0, 1) := by decide +kernel
theorem dX11_fewest_138 : decode cX11_fewest 138 = .ok (.getfield 46, 3) := by decide +kernel
theorem dX11_fewest_141 : decode cX11_fewest 141 = .ok (.iload 9, 2) := by decide +kernel
theorem dX11_fewest_143 : decode cX11_fewest 143 = .ok (.iaload, 1) := by decide +kernel
theorem dX11_fewest_144 : decode cX11_fewest 144 = .ok (.iload_n 3, 1) := by decide +kernel
theorem dX11_fewest_145 : decode cX11_fewest 145 = .ok (.iload 4, 2) := by decide +kernel
theorem dX11_fewest_147 : decode cX11_fewest 147 = .ok (.isub, 1) := by decide +kernel
theorem dX11_fewest_148 : decode cX11_fewest 148 = .ok (.if_icmp .ne 20, 3) := by decide +kernel
theorem dX11_fewest_151 : decode cX11_fewest 151 = .ok (.iload 5, 2) := by decide +kernel
theorem dX11_fewest_153 : decode cX11_fewest 153 = .ok (.iconst (-1), 1) := by decide +kernel
theorem dX11_fewest_154 : decode cX11_fewest 154 = .ok (.if_icmp .eq 10, 3) := by decide +kernel
theorem dX11_fewest_157 : decode cX11_fewest 157 = .ok (.iload 9, 2) := by decide +kernel
theorem dX11_fewest_159 : decode cX11_fewest 159 = .ok (.iload 5, 2) := by decide +kernel
theorem dX11_fewest_161 : decode cX11_fewest 161 = .ok (.if_icmp .ge 7, 3) := by decide +kernel
theorem dX11_fewest_164 : decode cX11_fewest 164 = .ok (.iload 9, 2) := by decide +kernel
theorem dX11_fewest_166 : decode cX11_fewest 166 = .ok (.istore 5, 2) := by decide +kernel
theorem dX11_fewest_168 : decode cX11_fewest 168 = .ok (.iinc 8 1, 3) := by decide +kernel
theorem dX11_fewest_171 : decode cX11_fewest 171 = .ok (.goto (-88), 3) := by decide +kernel
theorem dX11_fewest_174 : decode cX11_fewest 174 = .ok (.iload 5, 2) := by decide +kernel
theorem dX11_fewest_176 : decode cX11_fewest 176 = .ok (.istore_n 2, 1) := by decide +kernel
theorem dX11_fewest_177 : decode cX11_fewest 177 = .ok (.aload_n 0, 1) := by decide +kernel
theorem dX11_fewest_178 : decode cX11_fewest 178 = .ok (.getfield 52, 3) := by decide +kernel
theorem dX11_fewest_181 : decode cX11_fewest 181 = .ok (.iload 4, 2) := by decide +kernel
theorem dX11_fewest_183 : decode cX11_fewest 183 = .ok (.iload_n 2, 1) := by decide +kernel
theorem dX11_fewest_184 : decode cX11_fewest 184 = .ok (.iastore, 1) := by decide +kernel
theorem dX11_fewest_185 : decode cX11_fewest 185 = .ok (.iinc 4 1, 3) := by decide +kernel
theorem dX11_fewest_188 : decode cX11_fewest 188 = .ok (.goto (-125), 3) := by decide +kernel
theorem dX11_fewest_191 : decode cX11_fewest 191 = .ok (.iload_n 3, 1) := by decide +kernel
theorem dX11_fewest_192 : decode cX11_fewest 192 = .ok (.ireturn, 1) := by decide +kernel
theorem dX11_passed_0 : decode cX11_passed 0 = .ok (.iload_n 1, 1) := by decide +kernel
theorem dX11_passed_1 : decode cX11_passed 1 = .ok (.iconst 0, 1) := by decide +kernel
theorem dX11_passed_2 : decode cX11_passed 2 = .ok (.aload_n 0, 1) := by decide +kernel
theorem dX11_passed_3 : decode cX11_passed 3 = .ok (.getfield 280, 3) := by decide +kernel
theorem dX11_passed_6 : decode cX11_passed 6 = .ok (.iconst 1, 1) := by decide +kernel
theorem dX11_passed_7 : decode cX11_passed 7 = .ok (.isub, 1) := by decide +kernel
theorem dX11_passed_8 : decode cX11_passed 8 = .ok (.invokestatic 207, 3) := by decide +kernel
theorem dX11_passed_11 : decode cX11_passed 11 = .ok (.ifCond .eq 12, 3) := by decide +kernel
theorem dX11_passed_14 : decode cX11_passed 14 = .ok (.aload_n 0, 1) := by decide +kernel
theorem dX11_passed_15 : decode cX11_passed 15 = .ok (.getfield 52, 3) := by decide +kernel
theorem dX11_passed_18 : decode cX11_passed 18 = .ok (.iload_n 1, 1) := by decide +kernel
theorem dX11_passed_19 : decode cX11_passed 19 = .ok (.iaload, 1) := by decide +kernel
theorem dX11_passed_20 : decode cX11_passed 20 = .ok (.goto 4, 3) := by decide +kernel
theorem dX11_passed_23 : decode cX11_passed 23 = .ok (.iconst (-1), 1) := by decide +kernel
theorem dX11_passed_24 : decode cX11_passed 24 = .ok (.ireturn, 1) := by decide +kernel
theorem dX11_farthest_0 : decode cX11_farthest 0 = .ok (.iload_n 1, 1) := by decide +kernel
theorem dX11_farthest_1 : decode cX11_farthest 1 = .ok (.iconst 0, 1) := by decide +kernel
theorem dX11_farthest_2 : decode cX11_farthest 2 = .ok (.iconst 1, 1) := by decide +kernel
theorem dX11_farthest_3 : decode cX11_farthest 3 = .ok (.invokestatic 207, 3) := by decide +kernel
theorem dX11_farthest_6 : decode cX11_farthest 6 = .ok (.ifCond .ne 5, 3) := by decide +kernel
theorem dX11_farthest_9 : decode cX11_farthest 9 = .ok (.iconst (-1), 1) := by decide +kernel
theorem dX11_farthest_10 : decode cX11_farthest 10 = .ok (.ireturn, 1) := by decide +kernel
theorem dX11_farthest_11 : decode cX11_farthest 11 = .ok (.aload_n 0, 1) := by decide +kernel
theorem dX11_farthest_12 : decode cX11_farthest 12 = .ok (.aload_n 0, 1) := by decide +kernel
theorem dX11_farthest_13 : decode cX11_farthest 13 = .ok (.invokevirtual 229, 3) := by decide +kernel
theorem dX11_farthest_16 : decode cX11_farthest 16 = .ok (.invokevirtual 277, 3) := by decide +kernel
theorem dX11_farthest_19 : decode cX11_farthest 19 = .ok (.iconst 0, 1) := by decide +kernel
theorem dX11_farthest_20 : decode cX11_farthest 20 = .ok (.istore_n 2, 1) := by decide +kernel
theorem dX11_farthest_21 : decode cX11_farthest 21 = .ok (.iconst 0, 1) := by decide +kernel
theorem dX11_farthest_22 : decode cX11_farthest 22 = .ok (.istore_n 3, 1) := by decide +kernel
theorem dX11_farthest_23 : decode cX11_farthest 23 = .ok (.iload_n 3, 1) := by decide +kernel
theorem dX11_farthest_24 : decode cX11_farthest 24 = .ok (.aload_n 0, 1) := by decide +kernel
theorem dX11_farthest_25 : decode cX11_farthest 25 = .ok (.getfield 177, 3) := by decide +kernel
theorem dX11_farthest_28 : decode cX11_farthest 28 = .ok (.if_icmp .ge 30, 3) := by decide +kernel
theorem dX11_farthest_31 : decode cX11_farthest 31 = .ok (.aload_n 0, 1) := by decide +kernel
theorem dX11_farthest_32 : decode cX11_farthest 32 = .ok (.getfield 46, 3) := by decide +kernel
theorem dX11_farthest_35 : decode cX11_farthest 35 = .ok (.iload_n 3, 1) := by decide +kernel
theorem dX11_farthest_36 : decode cX11_farthest 36 = .ok (.iaload, 1) := by decide +kernel
theorem dX11_farthest_37 : decode cX11_farthest 37 = .ok (.iload_n 2, 1) := by decide +kernel
theorem dX11_farthest_38 : decode cX11_farthest 38 = .ok (.if_icmp .le 12, 3) := by decide +kernel
theorem dX11_farthest_41 : decode cX11_farthest 41 = .ok (.aload_n 0, 1) := by decide +kernel
theorem dX11_farthest_42 : decode cX11_farthest 42 = .ok (.getfield 46, 3) := by decide +kernel
theorem dX11_farthest_45 : decode cX11_farthest 45 = .ok (.iload_n 3, 1) := by decide +kernel
theorem dX11_farthest_46 : decode cX11_farthest 46 = .ok (.iaload, 1) := by decide +kernel
theorem dX11_farthest_47 : decode cX11_farthest 47 = .ok (.goto 4, 3) := by decide +kernel
theorem dX11_farthest_50 : decode cX11_farthest 50 = .ok (.iload_n 2, 1) := by decide +kernel
theorem dX11_farthest_51 : decode cX11_farthest 51 = .ok (.istore_n 2, 1) := by decide +kernel
theorem dX11_farthest_52 : decode cX11_farthest 52 = .ok (.iinc 3 1, 3) := by decide +kernel
theorem dX11_farthest_55 : decode cX11_farthest 55 = .ok (.goto (-32), 3) := by decide +kernel
theorem dX11_farthest_58 : decode cX11_farthest 58 = .ok (.iconst 0, 1) := by decide +kernel
theorem dX11_farthest_59 : decode cX11_farthest 59 = .ok (.istore_n 3, 1) := by decide +kernel
theorem dX11_farthest_60 : decode cX11_farthest 60 = .ok (.iconst 0, 1) := by decide +kernel
theorem dX11_farthest_61 : decode cX11_farthest 61 = .ok (.istore 4, 2) := by decide +kernel
theorem dX11_farthest_63 : decode cX11_farthest 63 = .ok (.iload 4, 2) := by decide +kernel
theorem dX11_farthest_65 : decode cX11_farthest 65 = .ok (.aload_n 0, 1) := by decide +kernel
theorem dX11_farthest_66 : decode cX11_farthest 66 = .ok (.getfield 177, 3) := by decide +kernel
theorem dX11_farthest_69 : decode cX11_farthest 69 = .ok (.if_icmp .ge 28, 3) := by decide +kernel
theorem dX11_farthest_72 : decode cX11_farthest 72 = .ok (.iload_n 3, 1) := by decide +kernel
theorem dX11_farthest_73 : decode cX11_farthest 73 = .ok (.aload_n 0, 1) := by decide +kernel
theorem dX11_farthest_74 : decode cX11_farthest 74 = .ok (.getfield 46, 3) := by decide +kernel
theorem dX11_farthest_77 : decode cX11_farthest 77 = .ok (.iload 4, 2) := by decide +kernel
theorem dX11_farthest_79 : decode cX11_farthest 79 = .ok (.iaload, 1) := by decide +kernel
theorem dX11_farthest_80 : decode cX11_farthest 80 = .ok (.iload_n 2, 1) := by decide +kernel
theorem dX11_farthest_81 : decode cX11_farthest 81 = .ok (.if_icmp .ne 7, 3) := by decide +kernel
theorem dX11_farthest_84 : decode cX11_farthest 84 = .ok (.iconst 1, 1) := by decide +kernel
theorem dX11_farthest_85 : decode cX11_farthest 85 = .ok (.goto 4, 3) := by decide +kernel
theorem dX11_farthest_88 : decode cX11_farthest 88 = .ok (.iconst 0, 1) := by decide +kernel
theorem dX11_farthest_89 : decode cX11_farthest 89 = .ok (.iadd, 1) := by decide +kernel
theorem dX11_farthest_90 : decode cX11_farthest 90 = .ok (.istore_n 3, 1) := by decide +kernel
theorem dX11_farthest_91 : decode cX11_farthest 91 = .ok (.iinc 4 1, 3) := by decide +kernel
theorem dX11_farthest_94 : decode cX11_farthest 94 = .ok (.goto (-31), 3) := by decide +kernel
theorem dX11_farthest_97 : decode cX11_farthest 97 = .ok (.iload_n 1, 1) := by decide +kernel
theorem dX11_farthest_98 : decode cX11_farthest 98 = .ok (.ifCond .ne 7, 3) := by decide +kernel
theorem dX11_farthest_101 : decode cX11_farthest 101 = .ok (.iload_n 2, 1) := by decide +kernel
theorem dX11_farthest_102 : decode cX11_farthest 102 = .ok (.goto 4, 3) := by decide +kernel
theorem dX11_farthest_105 : decode cX11_farthest 105 = .ok (.iload_n 3, 1) := by decide +kernel
theorem dX11_farthest_106 : decode cX11_farthest 106 = .ok (.ireturn, 1) := by decide +kernel
theorem dX11_turned_0 : decode cX11_turned 0 = .ok (.lconst 0, 1) := by decide +kernel
theorem dX11_turned_1 : decode cX11_turned 1 = .ok (.lstore 6, 2) := by decide +kernel
theorem dX11_turned_3 : decode cX11_turned 3 = .ok (.iconst 0, 1) := by decide +kernel
theorem dX11_turned_4 : decode cX11_turned 4 = .ok (.istore 8, 2) := by decide +kernel
theorem dX11_turned_6 : decode cX11_turned 6 = .ok (.iload 8, 2) := by decide +kernel
theorem dX11_turned_8 : decode cX11_turned 8 = .ok (.aload_n 0, 1) := by decide +kernel
theorem dX11_turned_9 : decode cX11_turned 9 = .ok (.getfield 161, 3) := by decide +kernel
theorem dX11_turned_12 : decode cX11_turned 12 = .ok (.if_icmp .ge 109, 3) := by decide +kernel
theorem dX11_turned_15 : decode cX11_turned 15 = .ok (.lload_n 2, 1) := by decide +kernel
theorem dX11_turned_16 : decode cX11_turned 16 = .ok (.iload 8, 2) := by decide +kernel
theorem dX11_turned_18 : decode cX11_turned 18 = .ok (.lshr, 1) := by decide +kernel
theorem dX11_turned_19 : decode cX11_turned 19 = .ok (.lconst 1, 1) := by decide +kernel
theorem dX11_turned_20 : decode cX11_turned 20 = .ok (.land, 1) := by decide +kernel
theorem dX11_turned_21 : decode cX11_turned 21 = .ok (.lconst 0, 1) := by decide +kernel
theorem dX11_turned_22 : decode cX11_turned 22 = .ok (.lcmp, 1) := by decide +kernel
theorem dX11_turned_23 : decode cX11_turned 23 = .ok (.ifCond .ne 6, 3) := by decide +kernel
theorem dX11_turned_26 : decode cX11_turned 26 = .ok (.goto 89, 3) := by decide +kernel
theorem dX11_turned_29 : decode cX11_turned 29 = .ok (.iload 5, 2) := by decide +kernel
theorem dX11_turned_31 : decode cX11_turned 31 = .ok (.ifCond .eq 17, 3) := by decide +kernel
theorem dX11_turned_34 : decode cX11_turned 34 = .ok (.iload_n 1, 1) := by decide +kernel
theorem dX11_turned_35 : decode cX11_turned 35 = .ok (.iconst 1, 1) := by decide +kernel
theorem dX11_turned_36 : decode cX11_turned 36 = .ok (.isub, 1) := by decide +kernel
theorem dX11_turned_37 : decode cX11_turned 37 = .ok (.aload_n 0, 1) := by decide +kernel
theorem dX11_turned_38 : decode cX11_turned 38 = .ok (.getfield 21, 3) := by decide +kernel
theorem dX11_turned_41 : decode cX11_turned 41 = .ok (.iload 8, 2) := by decide +kernel
theorem dX11_turned_43 : decode cX11_turned 43 = .ok (.iaload, 1) := by decide +kernel
theorem dX11_turned_44 : decode cX11_turned 44 = .ok (.isub, 1) := by decide +kernel
theorem dX11_turned_45 : decode cX11_turned 45 = .ok (.goto 10, 3) := by decide +kernel
theorem dX11_turned_48 : decode cX11_turned 48 = .ok (.aload_n 0, 1) := by decide +kernel
theorem dX11_turned_49 : decode cX11_turned 49 = .ok (.getfield 21, 3) := by decide +kernel
theorem dX11_turned_52 : decode cX11_turned 52 = .ok (.iload 8, 2) := by decide +kernel
theorem dX11_turned_54 : decode cX11_turned 54 = .ok (.iaload, 1) := by decide +kernel
theorem dX11_turned_55 : decode cX11_turned 55 = .ok (.istore 9, 2) := by decide +kernel
theorem dX11_turned_57 : decode cX11_turned 57 = .ok (.iload 5, 2) := by decide +kernel
theorem dX11_turned_59 : decode cX11_turned 59 = .ok (.ifCond .eq 17, 3) := by decide +kernel
theorem dX11_turned_62 : decode cX11_turned 62 = .ok (.iload_n 1, 1) := by decide +kernel
theorem dX11_turned_63 : decode cX11_turned 63 = .ok (.iconst 1, 1) := by decide +kernel
theorem dX11_turned_64 : decode cX11_turned 64 = .ok (.isub, 1) := by decide +kernel
theorem dX11_turned_65 : decode cX11_turned 65 = .ok (.aload_n 0, 1) := by decide +kernel
theorem dX11_turned_66 : decode cX11_turned 66 = .ok (.getfield 24, 3) := by decide +kernel
theorem dX11_turned_69 : decode cX11_turned 69 = .ok (.iload 8, 2) := by decide +kernel
theorem dX11_turned_71 : decode cX11_turned 71 = .ok (.iaload, 1) := by decide +kernel
theorem dX11_turned_72 : decode cX11_turned 72 = .ok (.isub, 1) := by decide +kernel
theorem dX11_turned_73 : decode cX11_turned 73 = .ok (.goto 10, 3) := by decide +kernel
theorem dX11_turned_76 : decode cX11_turned 76 = .ok (.aload_n 0, 1) := by decide +kernel
theorem dX11_turned_77 : decode cX11_turned 77 = .ok (.getfield 24, 3) := by decide +kernel
theorem dX11_turned_80 : decode cX11_turned 80 = .ok (.iload 8, 2) := by decide +kernel
theorem dX11_turned_82 : decode cX11_turned 82 = .ok (.iaload, 1) := by decide +kernel
theorem dX11_turned_83 : decode cX11_turned 83 = .ok (.istore 10, 2) := by decide +kernel
theorem dX11_turned_85 : decode cX11_turned 85 = .ok (.lload 6, 2) := by decide +kernel
theorem dX11_turned_87 : decode cX11_turned 87 = .ok (.lconst 1, 1) := by decide +kernel
theorem dX11_turned_88 : decode cX11_turned 88 = .ok (.aload_n 0, 1) := by decide +kernel
theorem dX11_turned_89 : decode cX11_turned 89 = .ok (.getfield 17, 3) := by decide +kernel
theorem dX11_turned_92 : decode cX11_turned 92 = .ok (.bipush 10, 2) := by decide +kernel
theorem dX11_turned_94 : decode cX11_turned 94 = .ok (.iload 9, 2) := by decide +kernel
theorem dX11_turned_96 : decode cX11_turned 96 = .ok (.iload 4, 2) := by decide +kernel
theorem dX11_turned_98 : decode cX11_turned 98 = .ok (.iadd, 1) := by decide +kernel
theorem dX11_turned_99 : decode cX11_turned 99 = .ok (.iload_n 1, 1) := by decide +kernel
theorem dX11_turned_100 : decode cX11_turned 100 = .ok (.irem, 1) := by decide +kernel
theorem dX11_turned_101 : decode cX11_turned 101 = .ok (.imul, 1) := by decide +kernel
theorem dX11_turned_102 : decode cX11_turned 102 = .ok (.iload 10, 2) := by decide +kernel
theorem dX11_turned_104 : decode cX11_turned 104 = .ok (.iload 4, 2) := by decide +kernel
theorem dX11_turned_106 : decode cX11_turned 106 = .ok (.iadd, 1) := by decide +kernel
theorem dX11_turned_107 : decode cX11_turned 107 = .ok (.iload_n 1, 1) := by decide +kernel
theorem dX11_turned_108 : decode cX11_turned 108 = .ok (.irem, 1) := by decide +kernel
theorem dX11_turned_109 : decode cX11_turned 109 = .ok (.iadd, 1) := by decide +kernel
theorem dX11_turned_110 : decode cX11_turned 110 = .ok (.iaload, 1) := by decide +kernel
theorem dX11_turned_111 : decode cX11_turned 111 = .ok (.lshl, 1) := by decide +kernel
theorem dX11_turned_112 : decode cX11_turned 112 = .ok (.lor, 1) := by decide +kernel
theorem dX11_turned_113 : decode cX11_turned 113 = .ok (.lstore 6, 2) := by decide +kernel
theorem dX11_turned_115 : decode cX11_turned 115 = .ok (.iinc 8 1, 3) := by decide +kernel
theorem dX11_turned_118 : decode cX11_turned 118 = .ok (.goto (-112), 3) := by decide +kernel
theorem dX11_turned_121 : decode cX11_turned 121 = .ok (.lload 6, 2) := by decide +kernel
theorem dX11_turned_123 : decode cX11_turned 123 = .ok (.lreturn, 1) := by decide +kernel
theorem dX11_leastOf_0 : decode cX11_leastOf 0 = .ok (.lload_n 2, 1) := by decide +kernel
theorem dX11_leastOf_1 : decode cX11_leastOf 1 = .ok (.lstore 5, 2) := by decide +kernel
theorem dX11_leastOf_3 : decode cX11_leastOf 3 = .ok (.iconst 0, 1) := by decide +kernel
theorem dX11_leastOf_4 : decode cX11_leastOf 4 = .ok (.istore 7, 2) := by decide +kernel
theorem dX11_leastOf_6 : decode cX11_leastOf 6 = .ok (.iload 7, 2) := by decide +kernel
theorem dX11_leastOf_8 : decode cX11_leastOf 8 = .ok (.iload_n 1, 1) := by decide +kernel
theorem dX11_leastOf_9 : decode cX11_leastOf 9 = .ok (.if_icmp .ge 65, 3) := by decide +kernel
theorem dX11_leastOf_12 : decode cX11_leastOf 12 = .ok (.aload_n 0, 1) := by decide +kernel
theorem dX11_leastOf_13 : decode cX11_leastOf 13 = .ok (.iload_n 1, 1) := by decide +kernel
theorem dX11_leastOf_14 : decode cX11_leastOf 14 = .ok (.lload_n 2, 1) := by decide +kernel
theorem dX11_leastOf_15 : decode cX11_leastOf 15 = .ok (.iload 7, 2) := by decide +kernel
theorem dX11_leastOf_17 : decode cX11_leastOf 17 = .ok (.iconst 0, 1) := by decide +kernel
theorem dX11_leastOf_18 : decode cX11_leastOf 18 = .ok (.invokevirtual 283, 3) := by decide +kernel
theorem dX11_leastOf_21 : decode cX11_leastOf 21 = .ok (.lstore 8, 2) := by decide +kernel
theorem dX11_leastOf_23 : decode cX11_leastOf 23 = .ok (.lload 8, 2) := by decide +kernel
theorem dX11_leastOf_25 : decode cX11_leastOf 25 = .ok (.lload 5, 2) := by decide +kernel
theorem dX11_leastOf_27 : decode cX11_leastOf 27 = .ok (.lcmp, 1) := by decide +kernel
theorem dX11_leastOf_28 : decode cX11_leastOf 28 = .ok (.ifCond .ge 7, 3) := by decide +kernel
theorem dX11_leastOf_31 : decode cX11_leastOf 31 = .ok (.lload 8, 2) := by decide +kernel
theorem dX11_leastOf_33 : decode cX11_leastOf 33 = .ok (.lstore 5, 2) := by decide +kernel
theorem dX11_leastOf_35 : decode cX11_leastOf 35 = .ok (.iload 4, 2) := by decide +kernel
theorem dX11_leastOf_37 : decode cX11_leastOf 37 = .ok (.ifCond .eq 15, 3) := by decide +kernel
theorem dX11_leastOf_40 : decode cX11_leastOf 40 = .ok (.aload_n 0, 1) := by decide +kernel
theorem dX11_leastOf_41 : decode cX11_leastOf 41 = .ok (.iload_n 1, 1) := by decide +kernel
theorem dX11_leastOf_42 : decode cX11_leastOf 42 = .ok (.lload_n 2, 1) := by decide +kernel
theorem dX11_leastOf_43 : decode cX11_leastOf 43 = .ok (.iload 7, 2) := by decide +kernel
theorem dX11_leastOf_45 : decode cX11_leastOf 45 = .ok (.iconst 1, 1) := by decide +kernel
theorem dX11_leastOf_46 : decode cX11_leastOf 46 = .ok (.invokevirtual 283, 3) := by decide +kernel
theorem dX11_leastOf_49 : decode cX11_leastOf 49 = .ok (.goto 5, 3) := by decide +kernel
theorem dX11_leastOf_52 : decode cX11_leastOf 52 = .ok (.lload 8, 2) := by decide +kernel
theorem dX11_leastOf_54 : decode cX11_leastOf 54 = .ok (.lstore 10, 2) := by decide +kernel
theorem dX11_leastOf_56 : decode cX11_leastOf 56 = .ok (.lload 10, 2) := by decide +kernel
theorem dX11_leastOf_58 : decode cX11_leastOf 58 = .ok (.lload 5, 2) := by decide +kernel
theorem dX11_leastOf_60 : decode cX11_leastOf 60 = .ok (.lcmp, 1) := by decide +kernel
theorem dX11_leastOf_61 : decode cX11_leastOf 61 = .ok (.ifCond .ge 7, 3) := by decide +kernel
theorem dX11_leastOf_64 : decode cX11_leastOf 64 = .ok (.lload 10, 2) := by decide +kernel
theorem dX11_leastOf_66 : decode cX11_leastOf 66 = .ok (.lstore 5, 2) := by decide +kernel
theorem dX11_leastOf_68 : decode cX11_leastOf 68 = .ok (.iinc 7 1, 3) := by decide +kernel
theorem dX11_leastOf_71 : decode cX11_leastOf 71 = .ok (.goto (-65), 3) := by decide +kernel
theorem dX11_leastOf_74 : decode cX11_leastOf 74 = .ok (.lload 5, 2) := by decide +kernel
theorem dX11_leastOf_76 : decode cX11_leastOf 76 = .ok (.lreturn, 1) := by decide +kernel
theorem dX11_least_0 : decode cX11_least 0 = .ok (.aload_n 0, 1) := by decide +kernel
theorem dX11_least_1 : decode cX11_least 1 = .ok (.aload_n 0, 1) := by decide +kernel
theorem dX11_least_2 : decode cX11_least 2 = .ok (.getfield 98, 3) := by decide +kernel
theorem dX11_least_5 : decode cX11_least 5 = .ok (.invokevirtual 101, 3) := by decide +kernel
theorem dX11_least_8 : decode cX11_least 8 = .ok (.aload_n 0, 1) := by decide +kernel
theorem dX11_least_9 : decode cX11_least 9 = .ok (.aload_n 0, 1) := by decide +kernel
theorem dX11_least_10 : decode cX11_least 10 = .ok (.aload_n 0, 1) := by decide +kernel
theorem dX11_least_11 : decode cX11_least 11 = .ok (.getfield 98, 3) := by decide +kernel
theorem dX11_least_14 : decode cX11_least 14 = .ok (.aload_n 0, 1) := by decide +kernel
theorem dX11_least_15 : decode cX11_least 15 = .ok (.getfield 105, 3) := by decide +kernel
theorem dX11_least_18 : decode cX11_least 18 = .ok (.iload_n 1, 1) := by decide +kernel
theorem dX11_least_19 : decode cX11_least 19 = .ok (.invokevirtual 287, 3) := by decide +kernel
theorem dX11_least_22 : decode cX11_least 22 = .ok (.invokevirtual 188, 3) := by decide +kernel
theorem dX11_least_25 : decode cX11_least 25 = .ok (.ireturn, 1) := by decide +kernel
theorem dX11_kinds_0 : decode cX11_kinds 0 = .ok (.iload_n 1, 1) := by decide +kernel
theorem dX11_kinds_1 : decode cX11_kinds 1 = .ok (.iconst 4, 1) := by decide +kernel
theorem dX11_kinds_2 : decode cX11_kinds 2 = .ok (.bipush 9, 2) := by decide +kernel
theorem dX11_kinds_4 : decode cX11_kinds 4 = .ok (.invokestatic 207, 3) := by decide +kernel
theorem dX11_kinds_7 : decode cX11_kinds 7 = .ok (.ifCond .ne 6, 3) := by decide +kernel
theorem dX11_kinds_10 : decode cX11_kinds 10 = .ok (.bipush (-2), 2) := by decide +kernel
theorem dX11_kinds_12 : decode cX11_kinds 12 = .ok (.ireturn, 1) := by decide +kernel
theorem dX11_kinds_13 : decode cX11_kinds 13 = .ok (.aload_n 0, 1) := by decide +kernel
theorem dX11_kinds_14 : decode cX11_kinds 14 = .ok (.iload_n 1, 1) := by decide +kernel
theorem dX11_kinds_15 : decode cX11_kinds 15 = .ok (.invokevirtual 101, 3) := by decide +kernel
theorem dX11_kinds_18 : decode cX11_kinds 18 = .ok (.iconst 0, 1) := by decide +kernel
theorem dX11_kinds_19 : decode cX11_kinds 19 = .ok (.istore_n 3, 1) := by decide +kernel
theorem dX11_kinds_20 : decode cX11_kinds 20 = .ok (.iconst 0, 1) := by decide +kernel
theorem dX11_kinds_21 : decode cX11_kinds 21 = .ok (.istore 4, 2) := by decide +kernel
theorem dX11_kinds_23 : decode cX11_kinds 23 = .ok (.iload 4, 2) := by decide +kernel
theorem dX11_kinds_25 : decode cX11_kinds 25 = .ok (.aload_n 0, 1) := by decide +kernel
theorem dX11_kinds_26 : decode cX11_kinds 26 = .ok (.getfield 177, 3) := by decide +kernel
theorem dX11_kinds_29 : decode cX11_kinds 29 = .ok (.if_icmp .ge 41, 3) := by decide +kernel
theorem dX11_kinds_32 : decode cX11_kinds 32 = .ok (.iload_n 3, 1) := by decide +kernel
theorem dX11_kinds_33 : decode cX11_kinds 33 = .ok (.aload_n 0, 1) := by decide +kernel
theorem dX11_kinds_34 : decode cX11_kinds 34 = .ok (.iload_n 1, 1) := by decide +kernel
theorem dX11_kinds_35 : decode cX11_kinds 35 = .ok (.aload_n 0, 1) := by decide +kernel
theorem dX11_kinds_36 : decode cX11_kinds 36 = .ok (.getfield 27, 3) := by decide +kernel
theorem dX11_kinds_39 : decode cX11_kinds 39 = .ok (.iload 4, 2) := by decide +kernel
theorem dX11_kinds_41 : decode cX11_kinds 41 = .ok (.laload, 1) := by decide +kernel
theorem dX11_kinds_42 : decode cX11_kinds 42 = .ok (.iload_n 2, 1) := by decide +kernel
theorem dX11_kinds_43 : decode cX11_kinds 43 = .ok (.invokevirtual 287, 3) := by decide +kernel
theorem dX11_kinds_46 : decode cX11_kinds 46 = .ok (.aload_n 0, 1) := by decide +kernel
theorem dX11_kinds_47 : decode cX11_kinds 47 = .ok (.getfield 27, 3) := by decide +kernel
theorem dX11_kinds_50 : decode cX11_kinds 50 = .ok (.iload 4, 2) := by decide +kernel
theorem dX11_kinds_52 : decode cX11_kinds 52 = .ok (.laload, 1) := by decide +kernel
theorem dX11_kinds_53 : decode cX11_kinds 53 = .ok (.lcmp, 1) := by decide +kernel
theorem dX11_kinds_54 : decode cX11_kinds 54 = .ok (.ifCond .ne 7, 3) := by decide +kernel
theorem dX11_kinds_57 : decode cX11_kinds 57 = .ok (.iconst 1, 1) := by decide +kernel
theorem dX11_kinds_58 : decode cX11_kinds 58 = .ok (.goto 4, 3) := by decide +kernel
theorem dX11_kinds_61 : decode cX11_kinds 61 = .ok (.iconst 0, 1) := by decide +kernel
theorem dX11_kinds_62 : decode cX11_kinds 62 = .ok (.iadd, 1) := by decide +kernel
theorem dX11_kinds_63 : decode cX11_kinds 63 = .ok (.istore_n 3, 1) := by decide +kernel
theorem dX11_kinds_64 : decode cX11_kinds 64 = .ok (.iinc 4 1, 3) := by decide +kernel
theorem dX11_kinds_67 : decode cX11_kinds 67 = .ok (.goto (-44), 3) := by decide +kernel
theorem dX11_kinds_70 : decode cX11_kinds 70 = .ok (.iload_n 3, 1) := by decide +kernel
theorem dX11_kinds_71 : decode cX11_kinds 71 = .ok (.ireturn, 1) := by decide +kernel
theorem dX11_readRow_0 : decode cX11_readRow 0 = .ok (.aload_n 0, 1) := by decide +kernel
theorem dX11_readRow_1 : decode cX11_readRow 1 = .ok (.invokevirtual 219, 3) := by decide +kernel
theorem dX11_readRow_4 : decode cX11_readRow 4 = .ok (.aload_n 0, 1) := by decide +kernel
theorem dX11_readRow_5 : decode cX11_readRow 5 = .ok (.iconst 0, 1) := by decide +kernel
theorem dX11_readRow_6 : decode cX11_readRow 6 = .ok (.putfield 291, 3) := by decide +kernel
theorem dX11_readRow_9 : decode cX11_readRow 9 = .ok (.aload_n 0, 1) := by decide +kernel
theorem dX11_readRow_10 : decode cX11_readRow 10 = .ok (.getfield 128, 3) := by decide +kernel
theorem dX11_readRow_13 : decode cX11_readRow 13 = .ok (.iconst 2, 1) := by decide +kernel
theorem dX11_readRow_14 : decode cX11_readRow 14 = .ok (.if_icmp .ne 44, 3) := by decide +kernel
theorem dX11_readRow_17 : decode cX11_readRow 17 = .ok (.aload_n 0, 1) := by decide +kernel
theorem dX11_readRow_18 : decode cX11_readRow 18 = .ok (.getfield 291, 3) := by decide +kernel
theorem dX11_readRow_21 : decode cX11_readRow 21 = .ok (.bipush 10, 2) := by decide +kernel
theorem dX11_readRow_23 : decode cX11_readRow 23 = .ok (.if_icmp .ne 5, 3) := by decide +kernel
theorem dX11_readRow_26 : decode cX11_readRow 26 = .ok (.iconst (-1), 1) := by decide +kernel
theorem dX11_readRow_27 : decode cX11_readRow 27 = .ok (.ireturn, 1) := by decide +kernel
theorem dX11_readRow_28 : decode cX11_readRow 28 = .ok (.aload_n 0, 1) := by decide +kernel
theorem dX11_readRow_29 : decode cX11_readRow 29 = .ok (.getfield 55, 3) := by decide +kernel
theorem dX11_readRow_32 : decode cX11_readRow 32 = .ok (.aload_n 0, 1) := by decide +kernel
theorem dX11_readRow_33 : decode cX11_readRow 33 = .ok (.getfield 291, 3) := by decide +kernel
theorem dX11_readRow_36 : decode cX11_readRow 36 = .ok (.aload_n 0, 1) := by decide +kernel
theorem dX11_readRow_37 : decode cX11_readRow 37 = .ok (.getfield 145, 3) := by decide +kernel
theorem dX11_readRow_40 : decode cX11_readRow 40 = .ok (.iastore, 1) := by decide +kernel
theorem dX11_readRow_41 : decode cX11_readRow 41 = .ok (.aload_n 0, 1) := by decide +kernel
theorem dX11_readRow_42 : decode cX11_readRow 42 = .ok (.dup, 1) := by decide +kernel
theorem dX11_readRow_43 : decode cX11_readRow 43 = .ok (.getfield 291, 3) := by decide +kernel
theorem dX11_readRow_46 : decode cX11_readRow 46 = .ok (.iconst 1, 1) := by decide +kernel
theorem dX11_readRow_47 : decode cX11_readRow 47 = .ok (.iadd, 1) := by decide +kernel
theorem dX11_readRow_48 : decode cX11_readRow 48 = .ok (.putfield 291, 3) := by decide +kernel
theorem dX11_readRow_51 : decode cX11_readRow 51 = .ok (.aload_n 0, 1) := by decide +kernel
theorem dX11_readRow_52 : decode cX11_readRow 52 = .ok (.invokevirtual 148, 3) := by decide +kernel
theorem dX11_readRow_55 : decode cX11_readRow 55 = .ok (.goto (-46), 3) := by decide +kernel
theorem dX11_readRow_58 : decode cX11_readRow 58 = .ok (.aload_n 0, 1) := by decide +kernel
theorem dX11_readRow_59 : decode cX11_readRow 59 = .ok (.getfield 128, 3) := by decide +kernel
theorem dX11_readRow_62 : decode cX11_readRow 62 = .ok (.iconst 4, 1) := by decide +kernel
theorem dX11_readRow_63 : decode cX11_readRow 63 = .ok (.if_icmp .ne 10, 3) := by decide +kernel
theorem dX11_readRow_66 : decode cX11_readRow 66 = .ok (.aload_n 0, 1) := by decide +kernel
theorem dX11_readRow_67 : decode cX11_readRow 67 = .ok (.getfield 291, 3) := by decide +kernel
theorem dX11_readRow_70 : decode cX11_readRow 70 = .ok (.goto 4, 3) := by decide +kernel
theorem dX11_readRow_73 : decode cX11_readRow 73 = .ok (.iconst (-1), 1) := by decide +kernel
theorem dX11_readRow_74 : decode cX11_readRow 74 = .ok (.ireturn, 1) := by decide +kernel
theorem dX11_apart_0 : decode cX11_apart 0 = .ok (.iconst 0, 1) := by decide +kernel
theorem dX11_apart_1 : decode cX11_apart 1 = .ok (.istore_n 3, 1) := by decide +kernel
theorem dX11_apart_2 : decode cX11_apart 2 = .ok (.iconst 0, 1) := by decide +kernel
theorem dX11_apart_3 : decode cX11_apart 3 = .ok (.istore 4, 2) := by decide +kernel
theorem dX11_apart_5 : decode cX11_apart 5 = .ok (.iload 4, 2) := by decide +kernel
theorem dX11_apart_7 : decode cX11_apart 7 = .ok (.aload_n 0, 1) := by decide +kernel
theorem dX11_apart_8 : decode cX11_apart 8 = .ok (.getfield 98, 3) := by decide +kernel
theorem dX11_apart_11 : decode cX11_apart 11 = .ok (.if_icmp .ge 46, 3) := by decide +kernel
theorem dX11_apart_14 : decode cX11_apart 14 = .ok (.aload_n 0, 1) := by decide +kernel
theorem dX11_apart_15 : decode cX11_apart 15 = .ok (.aload_n 0, 1) := by decide +kernel
theorem dX11_apart_16 : decode cX11_apart 16 = .ok (.getfield 98, 3) := by decide +kernel
theorem dX11_apart_19 : decode cX11_apart 19 = .ok (.lload_n 1, 1) := by decide +kernel
theorem dX11_apart_20 : decode cX11_apart 20 = .ok (.iload 4, 2) := by decide +kernel
theorem dX11_apart_22 : decode cX11_apart 22 = .ok (.invokevirtual 251, 3) := by decide +kernel
theorem dX11_apart_25 : decode cX11_apart 25 = .ok (.aload_n 0, 1) := by decide +kernel
theorem dX11_apart_26 : decode cX11_apart 26 = .ok (.getfield 55, 3) := by decide +kernel
theorem dX11_apart_29 : decode cX11_apart 29 = .ok (.iload 4, 2) := by decide +kernel
theorem dX11_apart_31 : decode cX11_apart 31 = .ok (.iaload, 1) := by decide +kernel
theorem dX11_apart_32 : decode cX11_apart 32 = .ok (.isub, 1) := by decide +kernel
theorem dX11_apart_33 : decode cX11_apart 33 = .ok (.istore 5, 2) := by decide +kernel
theorem dX11_apart_35 : decode cX11_apart 35 = .ok (.iload_n 3, 1) := by decide +kernel
theorem dX11_apart_36 : decode cX11_apart 36 = .ok (.iload 5, 2) := by decide +kernel
theorem dX11_apart_38 : decode cX11_apart 38 = .ok (.ifCond .ge 9, 3) := by decide +kernel
theorem dX11_apart_41 : decode cX11_apart 41 = .ok (.iload 5, 2) := by decide +kernel
theorem dX11_apart_43 : decode cX11_apart 43 = .ok (.ineg, 1) := by decide +kernel
theorem dX11_apart_44 : decode cX11_apart 44 = .ok (.goto 5, 3) := by decide +kernel
theorem dX11_apart_47 : decode cX11_apart 47 = .ok (.iload 5, 2) := by decide +kernel
theorem dX11_apart_49 : decode cX11_apart 49 = .ok (.iadd, 1) := by decide +kernel
theorem dX11_apart_50 : decode cX11_apart 50 = .ok (.istore_n 3, 1) := by decide +kernel
theorem dX11_apart_51 : decode cX11_apart 51 = .ok (.iinc 4 1, 3) := by decide +kernel
theorem dX11_apart_54 : decode cX11_apart 54 = .ok (.goto (-49), 3) := by decide +kernel
theorem dX11_apart_57 : decode cX11_apart 57 = .ok (.iload_n 3, 1) := by decide +kernel
theorem dX11_apart_58 : decode cX11_apart 58 = .ok (.ireturn, 1) := by decide +kernel
theorem dX11_nearest_0 : decode cX11_nearest 0 = .ok (.aload_n 0, 1) := by decide +kernel
theorem dX11_nearest_1 : decode cX11_nearest 1 = .ok (.aload_n 0, 1) := by decide +kernel
theorem dX11_nearest_2 : decode cX11_nearest 2 = .ok (.getfield 98, 3) := by decide +kernel
theorem dX11_nearest_5 : decode cX11_nearest 5 = .ok (.invokevirtual 101, 3) := by decide +kernel
theorem dX11_nearest_8 : decode cX11_nearest 8 = .ok (.iconst 0, 1) := by decide +kernel
theorem dX11_nearest_9 : decode cX11_nearest 9 = .ok (.istore_n 1, 1) := by decide +kernel
theorem dX11_nearest_10 : decode cX11_nearest 10 = .ok (.aload_n 0, 1) := by decide +kernel
theorem dX11_nearest_11 : decode cX11_nearest 11 = .ok (.aload_n 0, 1) := by decide +kernel
theorem dX11_nearest_12 : decode cX11_nearest 12 = .ok (.getfield 27, 3) := by decide +kernel
theorem dX11_nearest_15 : decode cX11_nearest 15 = .ok (.iconst 0, 1) := by decide +kernel
theorem dX11_nearest_16 : decode cX11_nearest 16 = .ok (.laload, 1) := by decide +kernel
theorem dX11_nearest_17 : decode cX11_nearest 17 = .ok (.invokevirtual 294, 3) := by decide +kernel
theorem dX11_nearest_20 : decode cX11_nearest 20 = .ok (.istore_n 2, 1) := by decide +kernel
theorem dX11_nearest_21 : decode cX11_nearest 21 = .ok (.iconst 1, 1) := by decide +kernel
theorem dX11_nearest_22 : decode cX11_nearest 22 = .ok (.istore_n 3, 1) := by decide +kernel
theorem dX11_nearest_23 : decode cX11_nearest 23 = .ok (.iload_n 3, 1) := by decide +kernel
theorem dX11_nearest_24 : decode cX11_nearest 24 = .ok (.aload_n 0, 1) := by decide +kernel
theorem dX11_nearest_25 : decode cX11_nearest 25 = .ok (.getfield 177, 3) := by decide +kernel
theorem dX11_nearest_28 : decode cX11_nearest 28 = .ok (.if_icmp .ge 35, 3) := by decide +kernel
theorem dX11_nearest_31 : decode cX11_nearest 31 = .ok (.aload_n 0, 1) := by decide +kernel
theorem dX11_nearest_32 : decode cX11_nearest 32 = .ok (.aload_n 0, 1) := by decide +kernel
theorem dX11_nearest_33 : decode cX11_nearest 33 = .ok (.getfield 27, 3) := by decide +kernel
theorem dX11_nearest_36 : decode cX11_nearest 36 = .ok (.iload_n 3, 1) := by decide +kernel
theorem dX11_nearest_37 : decode cX11_nearest 37 = .ok (.laload, 1) := by decide +kernel
theorem dX11_nearest_38 : decode cX11_nearest 38 = .ok (.invokevirtual 294, 3) := by decide +kernel
theorem dX11_nearest_41 : decode cX11_nearest 41 = .ok (.istore 4, 2) := by decide +kernel
theorem dX11_nearest_43 : decode cX11_nearest 43 = .ok (.iload 4, 2) := by decide +kernel
theorem dX11_nearest_45 : decode cX11_nearest 45 = .ok (.iload_n 2, 1) := by decide +kernel
theorem dX11_nearest_46 : decode cX11_nearest 46 = .ok (.if_icmp .lt 6, 3) := by decide +kernel
theorem dX11_nearest_49 : decode cX11_nearest 49 = .ok (.goto 8, 3) := by decide +kernel
theorem dX11_nearest_52 : decode cX11_nearest 52 = .ok (.iload 4, 2) := by decide +kernel
theorem dX11_nearest_54 : decode cX11_nearest 54 = .ok (.istore_n 2, 1) := by decide +kernel
theorem dX11_nearest_55 : decode cX11_nearest 55 = .ok (.iload_n 3, 1) := by decide +kernel
theorem dX11_nearest_56 : decode cX11_nearest 56 = .ok (.istore_n 1, 1) := by decide +kernel
theorem dX11_nearest_57 : decode cX11_nearest 57 = .ok (.iinc 3 1, 3) := by decide +kernel
theorem dX11_nearest_60 : decode cX11_nearest 60 = .ok (.goto (-37), 3) := by decide +kernel
theorem dX11_nearest_63 : decode cX11_nearest 63 = .ok (.iload_n 1, 1) := by decide +kernel
theorem dX11_nearest_64 : decode cX11_nearest 64 = .ok (.ireturn, 1) := by decide +kernel
theorem dX11_read_0 : decode cX11_read 0 = .ok (.aload_n 0, 1) := by decide +kernel
theorem dX11_read_1 : decode cX11_read 1 = .ok (.invokevirtual 297, 3) := by decide +kernel
theorem dX11_read_4 : decode cX11_read 4 = .ok (.aload_n 0, 1) := by decide +kernel
theorem dX11_read_5 : decode cX11_read 5 = .ok (.getfield 98, 3) := by decide +kernel
theorem dX11_read_8 : decode cX11_read 8 = .ok (.if_icmp .eq 6, 3) := by decide +kernel
theorem dX11_read_11 : decode cX11_read 11 = .ok (.bipush (-2), 2) := by decide +kernel
theorem dX11_read_13 : decode cX11_read 13 = .ok (.ireturn, 1) := by decide +kernel
theorem dX11_read_14 : decode cX11_read 14 = .ok (.aload_n 0, 1) := by decide +kernel
theorem dX11_read_15 : decode cX11_read 15 = .ok (.invokevirtual 300, 3) := by decide +kernel
theorem dX11_read_18 : decode cX11_read 18 = .ok (.istore_n 1, 1) := by decide +kernel
theorem dX11_read_19 : decode cX11_read 19 = .ok (.aload_n 0, 1) := by decide +kernel
theorem dX11_read_20 : decode cX11_read 20 = .ok (.aload_n 0, 1) := by decide +kernel
theorem dX11_read_21 : decode cX11_read 21 = .ok (.getfield 27, 3) := by decide +kernel
theorem dX11_read_24 : decode cX11_read 24 = .ok (.iload_n 1, 1) := by decide +kernel
theorem dX11_read_25 : decode cX11_read 25 = .ok (.laload, 1) := by decide +kernel
theorem dX11_read_26 : decode cX11_read 26 = .ok (.invokevirtual 294, 3) := by decide +kernel
theorem dX11_read_29 : decode cX11_read 29 = .ok (.ifCond .eq 5, 3) := by decide +kernel
theorem dX11_read_32 : decode cX11_read 32 = .ok (.iconst (-1), 1) := by decide +kernel
theorem dX11_read_33 : decode cX11_read 33 = .ok (.ireturn, 1) := by decide +kernel
theorem dX11_read_34 : decode cX11_read 34 = .ok (.aload_n 0, 1) := by decide +kernel
theorem dX11_read_35 : decode cX11_read 35 = .ok (.aload_n 0, 1) := by decide +kernel
theorem dX11_read_36 : decode cX11_read 36 = .ok (.getfield 27, 3) := by decide +kernel
theorem dX11_read_39 : decode cX11_read 39 = .ok (.iload_n 1, 1) := by decide +kernel
theorem dX11_read_40 : decode cX11_read 40 = .ok (.laload, 1) := by decide +kernel
theorem dX11_read_41 : decode cX11_read 41 = .ok (.putfield 105, 3) := by decide +kernel
theorem dX11_read_44 : decode cX11_read 44 = .ok (.iload_n 1, 1) := by decide +kernel
theorem dX11_read_45 : decode cX11_read 45 = .ok (.ireturn, 1) := by decide +kernel
theorem dX11_mend_0 : decode cX11_mend 0 = .ok (.aload_n 0, 1) := by decide +kernel
theorem dX11_mend_1 : decode cX11_mend 1 = .ok (.invokevirtual 297, 3) := by decide +kernel
theorem dX11_mend_4 : decode cX11_mend 4 = .ok (.aload_n 0, 1) := by decide +kernel
theorem dX11_mend_5 : decode cX11_mend 5 = .ok (.getfield 98, 3) := by decide +kernel
theorem dX11_mend_8 : decode cX11_mend 8 = .ok (.if_icmp .eq 6, 3) := by decide +kernel
theorem dX11_mend_11 : decode cX11_mend 11 = .ok (.bipush (-2), 2) := by decide +kernel
theorem dX11_mend_13 : decode cX11_mend 13 = .ok (.ireturn, 1) := by decide +kernel
theorem dX11_mend_14 : decode cX11_mend 14 = .ok (.aload_n 0, 1) := by decide +kernel
theorem dX11_mend_15 : decode cX11_mend 15 = .ok (.aload_n 0, 1) := by decide +kernel
theorem dX11_mend_16 : decode cX11_mend 16 = .ok (.invokevirtual 300, 3) := by decide +kernel
theorem dX11_mend_19 : decode cX11_mend 19 = .ok (.putfield 58, 3) := by decide +kernel
theorem dX11_mend_22 : decode cX11_mend 22 = .ok (.aload_n 0, 1) := by decide +kernel
theorem dX11_mend_23 : decode cX11_mend 23 = .ok (.aload_n 0, 1) := by decide +kernel
theorem dX11_mend_24 : decode cX11_mend 24 = .ok (.getfield 27, 3) := by decide +kernel
theorem dX11_mend_27 : decode cX11_mend 27 = .ok (.aload_n 0, 1) := by decide +kernel
theorem dX11_mend_28 : decode cX11_mend 28 = .ok (.getfield 58, 3) := by decide +kernel
theorem dX11_mend_31 : decode cX11_mend 31 = .ok (.laload, 1) := by decide +kernel
theorem dX11_mend_32 : decode cX11_mend 32 = .ok (.invokevirtual 294, 3) := by decide +kernel
theorem dX11_mend_35 : decode cX11_mend 35 = .ok (.ireturn, 1) := by decide +kernel
theorem dX11_mended_0 : decode cX11_mended 0 = .ok (.aload_n 0, 1) := by decide +kernel
theorem dX11_mended_1 : decode cX11_mended 1 = .ok (.getfield 58, 3) := by decide +kernel
theorem dX11_mended_4 : decode cX11_mended 4 = .ok (.ireturn, 1) := by decide +kernel
theorem dX11_cross_0 : decode cX11_cross 0 = .ok (.aload_n 0, 1) := by decide +kernel
theorem dX11_cross_1 : decode cX11_cross 1 = .ok (.aload_n 0, 1) := by decide +kernel
theorem dX11_cross_2 : decode cX11_cross 2 = .ok (.getfield 98, 3) := by decide +kernel
theorem dX11_cross_5 : decode cX11_cross 5 = .ok (.invokevirtual 171, 3) := by decide +kernel
theorem dX11_cross_8 : decode cX11_cross 8 = .ok (.aload_n 0, 1) := by decide +kernel
theorem dX11_cross_9 : decode cX11_cross 9 = .ok (.iconst 0, 1) := by decide +kernel
theorem dX11_cross_10 : decode cX11_cross 10 = .ok (.putfield 303, 3) := by decide +kernel
theorem dX11_cross_13 : decode cX11_cross 13 = .ok (.iconst 0, 1) := by decide +kernel
theorem dX11_cross_14 : decode cX11_cross 14 = .ok (.istore_n 3, 1) := by decide +kernel
theorem dX11_cross_15 : decode cX11_cross 15 = .ok (.iload_n 3, 1) := by decide +kernel
theorem dX11_cross_16 : decode cX11_cross 16 = .ok (.aload_n 0, 1) := by decide +kernel
theorem dX11_cross_17 : decode cX11_cross 17 = .ok (.getfield 161, 3) := by decide +kernel
theorem dX11_cross_20 : decode cX11_cross 20 = .ok (.if_icmp .ge 223, 3) := by decide +kernel
theorem dX11_cross_23 : decode cX11_cross 23 = .ok (.aload_n 0, 1) := by decide +kernel
theorem dX11_cross_24 : decode cX11_cross 24 = .ok (.getfield 105, 3) := by decide +kernel
theorem dX11_cross_27 : decode cX11_cross 27 = .ok (.iload_n 3, 1) := by decide +kernel
theorem dX11_cross_28 : decode cX11_cross 28 = .ok (.lshr, 1) := by decide +kernel
theorem dX11_cross_29 : decode cX11_cross 29 = .ok (.lconst 1, 1) := by decide +kernel
theorem dX11_cross_30 : decode cX11_cross 30 = .ok (.land, 1) := by decide +kernel
theorem dX11_cross_31 : decode cX11_cross 31 = .ok (.lconst 0, 1) := by decide +kernel
theorem dX11_cross_32 : decode cX11_cross 32 = .ok (.lcmp, 1) := by decide +kernel
theorem dX11_cross_33 : decode cX11_cross 33 = .ok (.ifCond .eq 204, 3) := by decide +kernel
theorem dX11_cross_36 : decode cX11_cross 36 = .ok (.aload_n 0, 1) := by decide +kernel
theorem dX11_cross_37 : decode cX11_cross 37 = .ok (.getfield 98, 3) := by decide +kernel
theorem dX11_cross_40 : decode cX11_cross 40 = .ok (.iload_n 1, 1) := by decide +kernel
theorem dX11_cross_41 : decode cX11_cross 41 = .ok (.iload_n 2, 1) := by decide +kernel
theorem dX11_cross_42 : decode cX11_cross 42 = .ok (.aload_n 0, 1) := by decide +kernel
theorem dX11_cross_43 : decode cX11_cross 43 = .ok (.getfield 21, 3) := by decide +kernel
theorem dX11_cross_46 : decode cX11_cross 46 = .ok (.iload_n 3, 1) := by decide +kernel
theorem dX11_cross_47 : decode cX11_cross 47 = .ok (.iaload, 1) := by decide +kernel
theorem dX11_cross_48 : decode cX11_cross 48 = .ok (.aload_n 0, 1) := by decide +kernel
theorem dX11_cross_49 : decode cX11_cross 49 = .ok (.getfield 24, 3) := by decide +kernel
theorem dX11_cross_52 : decode cX11_cross 52 = .ok (.iload_n 3, 1) := by decide +kernel
theorem dX11_cross_53 : decode cX11_cross 53 = .ok (.iaload, 1) := by decide +kernel
theorem dX11_cross_54 : decode cX11_cross 54 = .ok (.invokestatic 184, 3) := by decide +kernel
theorem dX11_cross_57 : decode cX11_cross 57 = .ok (.ifCond .ne 6, 3) := by decide +kernel
theorem dX11_cross_60 : decode cX11_cross 60 = .ok (.goto 177, 3) := by decide +kernel
theorem dX11_cross_63 : decode cX11_cross 63 = .ok (.aload_n 0, 1) := by decide +kernel
theorem dX11_cross_64 : decode cX11_cross 64 = .ok (.getfield 98, 3) := by decide +kernel
theorem dX11_cross_67 : decode cX11_cross 67 = .ok (.iload_n 1, 1) := by decide +kernel
theorem dX11_cross_68 : decode cX11_cross 68 = .ok (.aload_n 0, 1) := by decide +kernel
theorem dX11_cross_69 : decode cX11_cross 69 = .ok (.getfield 21, 3) := by decide +kernel
theorem dX11_cross_72 : decode cX11_cross 72 = .ok (.iload_n 3, 1) := by decide +kernel
theorem dX11_cross_73 : decode cX11_cross 73 = .ok (.iaload, 1) := by decide +kernel
theorem dX11_cross_74 : decode cX11_cross 74 = .ok (.iload_n 2, 1) := by decide +kernel
theorem dX11_cross_75 : decode cX11_cross 75 = .ok (.invokestatic 167, 3) := by decide +kernel
theorem dX11_cross_78 : decode cX11_cross 78 = .ok (.ifCond .eq 12, 3) := by decide +kernel
theorem dX11_cross_81 : decode cX11_cross 81 = .ok (.aload_n 0, 1) := by decide +kernel
theorem dX11_cross_82 : decode cX11_cross 82 = .ok (.getfield 21, 3) := by decide +kernel
theorem dX11_cross_85 : decode cX11_cross 85 = .ok (.iload_n 3, 1) := by decide +kernel
theorem dX11_cross_86 : decode cX11_cross 86 = .ok (.iaload, 1) := by decide +kernel
theorem dX11_cross_87 : decode cX11_cross 87 = .ok (.goto 9, 3) := by decide +kernel
theorem dX11_cross_90 : decode cX11_cross 90 = .ok (.aload_n 0, 1) := by decide +kernel
theorem dX11_cross_91 : decode cX11_cross 91 = .ok (.getfield 24, 3) := by decide +kernel
theorem dX11_cross_94 : decode cX11_cross 94 = .ok (.iload_n 3, 1) := by decide +kernel
theorem dX11_cross_95 : decode cX11_cross 95 = .ok (.iaload, 1) := by decide +kernel
theorem dX11_cross_96 : decode cX11_cross 96 = .ok (.istore 4, 2) := by decide +kernel
theorem dX11_cross_98 : decode cX11_cross 98 = .ok (.aload_n 0, 1) := by decide +kernel
theorem dX11_cross_99 : decode cX11_cross 99 = .ok (.getfield 21, 3) := by decide +kernel
theorem dX11_cross_102 : decode cX11_cross 102 = .ok (.iload_n 3, 1) := by decide +kernel
theorem dX11_cross_103 : decode cX11_cross 103 = .ok (.iaload, 1) := by decide +kernel
theorem dX11_cross_104 : decode cX11_cross 104 = .ok (.aload_n 0, 1) := by decide +kernel
theorem dX11_cross_105 : decode cX11_cross 105 = .ok (.getfield 24, 3) := by decide +kernel
theorem dX11_cross_108 : decode cX11_cross 108 = .ok (.iload_n 3, 1) := by decide +kernel
theorem dX11_cross_109 : decode cX11_cross 109 = .ok (.iaload, 1) := by decide +kernel
theorem dX11_cross_110 : decode cX11_cross 110 = .ok (.iadd, 1) := by decide +kernel
theorem dX11_cross_111 : decode cX11_cross 111 = .ok (.iload 4, 2) := by decide +kernel
theorem dX11_cross_113 : decode cX11_cross 113 = .ok (.isub, 1) := by decide +kernel
theorem dX11_cross_114 : decode cX11_cross 114 = .ok (.istore 5, 2) := by decide +kernel
theorem dX11_cross_116 : decode cX11_cross 116 = .ok (.iload 4, 2) := by decide +kernel
theorem dX11_cross_118 : decode cX11_cross 118 = .ok (.iload_n 1, 1) := by decide +kernel
theorem dX11_cross_119 : decode cX11_cross 119 = .ok (.isub, 1) := by decide +kernel
theorem dX11_cross_120 : decode cX11_cross 120 = .ok (.aload_n 0, 1) := by decide +kernel
theorem dX11_cross_121 : decode cX11_cross 121 = .ok (.getfield 98, 3) := by decide +kernel
theorem dX11_cross_124 : decode cX11_cross 124 = .ok (.iadd, 1) := by decide +kernel
theorem dX11_cross_125 : decode cX11_cross 125 = .ok (.aload_n 0, 1) := by decide +kernel
theorem dX11_cross_126 : decode cX11_cross 126 = .ok (.getfield 98, 3) := by decide +kernel
theorem dX11_cross_129 : decode cX11_cross 129 = .ok (.irem, 1) := by decide +kernel
theorem dX11_cross_130 : decode cX11_cross 130 = .ok (.iload_n 1, 1) := by decide +kernel
theorem dX11_cross_131 : decode cX11_cross 131 = .ok (.iload 5, 2) := by decide +kernel
theorem dX11_cross_133 : decode cX11_cross 133 = .ok (.isub, 1) := by decide +kernel
theorem dX11_cross_134 : decode cX11_cross 134 = .ok (.aload_n 0, 1) := by decide +kernel
theorem dX11_cross_135 : decode cX11_cross 135 = .ok (.getfield 98, 3) := by decide +kernel
theorem dX11_cross_138 : decode cX11_cross 138 = .ok (.iadd, 1) := by decide +kernel
theorem dX11_cross_139 : decode cX11_cross 139 = .ok (.aload_n 0, 1) := by decide +kernel
theorem dX11_cross_140 : decode cX11_cross 140 = .ok (.getfield 98, 3) := by decide +kernel
theorem dX11_cross_143 : decode cX11_cross 143 = .ok (.irem, 1) := by decide +kernel
theorem dX11_cross_144 : decode cX11_cross 144 = .ok (.iadd, 1) := by decide +kernel
theorem dX11_cross_145 : decode cX11_cross 145 = .ok (.istore 6, 2) := by decide +kernel
theorem dX11_cross_147 : decode cX11_cross 147 = .ok (.aload_n 0, 1) := by decide +kernel
theorem dX11_cross_148 : decode cX11_cross 148 = .ok (.getfield 303, 3) := by decide +kernel
theorem dX11_cross_151 : decode cX11_cross 151 = .ok (.istore 7, 2) := by decide +kernel
theorem dX11_cross_153 : decode cX11_cross 153 = .ok (.iload 7, 2) := by decide +kernel
theorem dX11_cross_155 : decode cX11_cross 155 = .ok (.ifCond .le 55, 3) := by decide +kernel
theorem dX11_cross_158 : decode cX11_cross 158 = .ok (.aload_n 0, 1) := by decide +kernel
theorem dX11_cross_159 : decode cX11_cross 159 = .ok (.getfield 64, 3) := by decide +kernel
theorem dX11_cross_162 : decode cX11_cross 162 = .ok (.iload 7, 2) := by decide +kernel
theorem dX11_cross_164 : decode cX11_cross 164 = .ok (.iconst 1, 1) := by decide +kernel
theorem dX11_cross_165 : decode cX11_cross 165 = .ok (.isub, 1) := by decide +kernel
theorem dX11_cross_166 : decode cX11_cross 166 = .ok (.iaload, 1) := by decide +kernel
theorem dX11_cross_167 : decode cX11_cross 167 = .ok (.iload 6, 2) := by decide +kernel
theorem dX11_cross_169 : decode cX11_cross 169 = .ok (.if_icmp .le 41, 3) := by decide +kernel
theorem dX11_cross_172 : decode cX11_cross 172 = .ok (.aload_n 0, 1) := by decide +kernel
theorem dX11_cross_173 : decode cX11_cross 173 = .ok (.getfield 64, 3) := by decide +kernel
theorem dX11_cross_176 : decode cX11_cross 176 = .ok (.iload 7, 2) := by decide +kernel
theorem dX11_cross_178 : decode cX11_cross 178 = .ok (.aload_n 0, 1) := by decide +kernel
theorem dX11_cross_179 : decode cX11_cross 179 = .ok (.getfield 64, 3) := by decide +kernel
theorem dX11_cross_182 : decode cX11_cross 182 = .ok (.iload 7, 2) := by decide +kernel
theorem dX11_cross_184 : decode cX11_cross 184 = .ok (.iconst 1, 1) := by decide +kernel
theorem dX11_cross_185 : decode cX11_cross 185 = .ok (.isub, 1) := by decide +kernel
theorem dX11_cross_186 : decode cX11_cross 186 = .ok (.iaload, 1) := by decide +kernel
theorem dX11_cross_187 : decode cX11_cross 187 = .ok (.iastore, 1) := by decide +kernel
theorem dX11_cross_188 : decode cX11_cross 188 = .ok (.aload_n 0, 1) := by decide +kernel
theorem dX11_cross_189 : decode cX11_cross 189 = .ok (.getfield 61, 3) := by decide +kernel
theorem dX11_cross_192 : decode cX11_cross 192 = .ok (.iload 7, 2) := by decide +kernel
theorem dX11_cross_194 : decode cX11_cross 194 = .ok (.aload_n 0, 1) := by decide +kernel
theorem dX11_cross_195 : decode cX11_cross 195 = .ok (.getfield 61, 3) := by decide +kernel
theorem dX11_cross_198 : decode cX11_cross 198 = .ok (.iload 7, 2) := by decide +kernel
theorem dX11_cross_200 : decode cX11_cross 200 = .ok (.iconst 1, 1) := by decide +kernel
theorem dX11_cross_201 : decode cX11_cross 201 = .ok (.isub, 1) := by decide +kernel
theorem dX11_cross_202 : decode cX11_cross 202 = .ok (.iaload, 1) := by decide +kernel
theorem dX11_cross_203 : decode cX11_cross 203 = .ok (.iastore, 1) := by decide +kernel
theorem dX11_cross_204 : decode cX11_cross 204 = .ok (.iinc 7 (-1), 3) := by decide +kernel
theorem dX11_cross_207 : decode cX11_cross 207 = .ok (.goto (-54), 3) := by decide +kernel
theorem dX11_cross_210 : decode cX11_cross 210 = .ok (.aload_n 0, 1) := by decide +kernel
theorem dX11_cross_211 : decode cX11_cross 211 = .ok (.getfield 64, 3) := by decide +kernel
theorem dX11_cross_214 : decode cX11_cross 214 = .ok (.iload 7, 2) := by decide +kernel
theorem dX11_cross_216 : decode cX11_cross 216 = .ok (.iload 6, 2) := by decide +kernel
theorem dX11_cross_218 : decode cX11_cross 218 = .ok (.iastore, 1) := by decide +kernel
theorem dX11_cross_219 : decode cX11_cross 219 = .ok (.aload_n 0, 1) := by decide +kernel
theorem dX11_cross_220 : decode cX11_cross 220 = .ok (.getfield 61, 3) := by decide +kernel
theorem dX11_cross_223 : decode cX11_cross 223 = .ok (.iload 7, 2) := by decide +kernel
theorem dX11_cross_225 : decode cX11_cross 225 = .ok (.iload_n 3, 1) := by decide +kernel
theorem dX11_cross_226 : decode cX11_cross 226 = .ok (.iastore, 1) := by decide +kernel
theorem dX11_cross_227 : decode cX11_cross 227 = .ok (.aload_n 0, 1) := by decide +kernel
theorem dX11_cross_228 : decode cX11_cross 228 = .ok (.dup, 1) := by decide +kernel
theorem dX11_cross_229 : decode cX11_cross 229 = .ok (.getfield 303, 3) := by decide +kernel
theorem dX11_cross_232 : decode cX11_cross 232 = .ok (.iconst 1, 1) := by decide +kernel
theorem dX11_cross_233 : decode cX11_cross 233 = .ok (.iadd, 1) := by decide +kernel
theorem dX11_cross_234 : decode cX11_cross 234 = .ok (.putfield 303, 3) := by decide +kernel
theorem dX11_cross_237 : decode cX11_cross 237 = .ok (.iinc 3 1, 3) := by decide +kernel
theorem dX11_cross_240 : decode cX11_cross 240 = .ok (.goto (-225), 3) := by decide +kernel
theorem dX11_cross_243 : decode cX11_cross 243 = .ok (.return_, 1) := by decide +kernel
theorem dX11_crossed_0 : decode cX11_crossed 0 = .ok (.aload_n 0, 1) := by decide +kernel
theorem dX11_crossed_1 : decode cX11_crossed 1 = .ok (.iload_n 1, 1) := by decide +kernel
theorem dX11_crossed_2 : decode cX11_crossed 2 = .ok (.invokevirtual 244, 3) := by decide +kernel
theorem dX11_crossed_5 : decode cX11_crossed 5 = .ok (.ifCond .eq 16, 3) := by decide +kernel
theorem dX11_crossed_8 : decode cX11_crossed 8 = .ok (.aload_n 0, 1) := by decide +kernel
theorem dX11_crossed_9 : decode cX11_crossed 9 = .ok (.iload_n 2, 1) := by decide +kernel
theorem dX11_crossed_10 : decode cX11_crossed 10 = .ok (.invokevirtual 244, 3) := by decide +kernel
theorem dX11_crossed_13 : decode cX11_crossed 13 = .ok (.ifCond .eq 8, 3) := by decide +kernel
theorem dX11_crossed_16 : decode cX11_crossed 16 = .ok (.iload_n 1, 1) := by decide +kernel
theorem dX11_crossed_17 : decode cX11_crossed 17 = .ok (.iload_n 2, 1) := by decide +kernel
theorem dX11_crossed_18 : decode cX11_crossed 18 = .ok (.if_icmp .ne 6, 3) := by decide +kernel
theorem dX11_crossed_21 : decode cX11_crossed 21 = .ok (.bipush (-2), 2) := by decide +kernel
theorem dX11_crossed_23 : decode cX11_crossed 23 = .ok (.ireturn, 1) := by decide +kernel
theorem dX11_crossed_24 : decode cX11_crossed 24 = .ok (.aload_n 0, 1) := by decide +kernel
theorem dX11_crossed_25 : decode cX11_crossed 25 = .ok (.iload_n 1, 1) := by decide +kernel
theorem dX11_crossed_26 : decode cX11_crossed 26 = .ok (.iload_n 2, 1) := by decide +kernel
theorem dX11_crossed_27 : decode cX11_crossed 27 = .ok (.invokevirtual 306, 3) := by decide +kernel
theorem dX11_crossed_30 : decode cX11_crossed 30 = .ok (.iload_n 3, 1) := by decide +kernel
theorem dX11_crossed_31 : decode cX11_crossed 31 = .ok (.iconst (-1), 1) := by decide +kernel
theorem dX11_crossed_32 : decode cX11_crossed 32 = .ok (.if_icmp .ne 8, 3) := by decide +kernel
theorem dX11_crossed_35 : decode cX11_crossed 35 = .ok (.aload_n 0, 1) := by decide +kernel
theorem dX11_crossed_36 : decode cX11_crossed 36 = .ok (.getfield 303, 3) := by decide +kernel
theorem dX11_crossed_39 : decode cX11_crossed 39 = .ok (.ireturn, 1) := by decide +kernel
theorem dX11_crossed_40 : decode cX11_crossed 40 = .ok (.iload_n 3, 1) := by decide +kernel
theorem dX11_crossed_41 : decode cX11_crossed 41 = .ok (.iconst 0, 1) := by decide +kernel
theorem dX11_crossed_42 : decode cX11_crossed 42 = .ok (.aload_n 0, 1) := by decide +kernel
theorem dX11_crossed_43 : decode cX11_crossed 43 = .ok (.getfield 303, 3) := by decide +kernel
theorem dX11_crossed_46 : decode cX11_crossed 46 = .ok (.iconst 1, 1) := by decide +kernel
theorem dX11_crossed_47 : decode cX11_crossed 47 = .ok (.isub, 1) := by decide +kernel
theorem dX11_crossed_48 : decode cX11_crossed 48 = .ok (.invokestatic 207, 3) := by decide +kernel
theorem dX11_crossed_51 : decode cX11_crossed 51 = .ok (.ifCond .eq 32, 3) := by decide +kernel
theorem dX11_crossed_54 : decode cX11_crossed 54 = .ok (.bipush 16, 2) := by decide +kernel
theorem dX11_crossed_56 : decode cX11_crossed 56 = .ok (.aload_n 0, 1) := by decide +kernel
theorem dX11_crossed_57 : decode cX11_crossed 57 = .ok (.getfield 21, 3) := by decide +kernel
theorem dX11_crossed_60 : decode cX11_crossed 60 = .ok (.aload_n 0, 1) := by decide +kernel
theorem dX11_crossed_61 : decode cX11_crossed 61 = .ok (.getfield 61, 3) := by decide +kernel
theorem dX11_crossed_64 : decode cX11_crossed 64 = .ok (.iload_n 3, 1) := by decide +kernel
theorem dX11_crossed_65 : decode cX11_crossed 65 = .ok (.iaload, 1) := by decide +kernel
theorem dX11_crossed_66 : decode cX11_crossed 66 = .ok (.iaload, 1) := by decide +kernel
theorem dX11_crossed_67 : decode cX11_crossed 67 = .ok (.imul, 1) := by decide +kernel
theorem dX11_crossed_68 : decode cX11_crossed 68 = .ok (.aload_n 0, 1) := by decide +kernel
theorem dX11_crossed_69 : decode cX11_crossed 69 = .ok (.getfield 24, 3) := by decide +kernel
theorem dX11_crossed_72 : decode cX11_crossed 72 = .ok (.aload_n 0, 1) := by decide +kernel
theorem dX11_crossed_73 : decode cX11_crossed 73 = .ok (.getfield 61, 3) := by decide +kernel
theorem dX11_crossed_76 : decode cX11_crossed 76 = .ok (.iload_n 3, 1) := by decide +kernel
theorem dX11_crossed_77 : decode cX11_crossed 77 = .ok (.iaload, 1) := by decide +kernel
theorem dX11_crossed_78 : decode cX11_crossed 78 = .ok (.iaload, 1) := by decide +kernel
theorem dX11_crossed_79 : decode cX11_crossed 79 = .ok (.iadd, 1) := by decide +kernel
theorem dX11_crossed_80 : decode cX11_crossed 80 = .ok (.goto 4, 3) := by decide +kernel
theorem dX11_crossed_83 : decode cX11_crossed 83 = .ok (.iconst (-1), 1) := by decide +kernel
theorem dX11_crossed_84 : decode cX11_crossed 84 = .ok (.ireturn, 1) := by decide +kernel
theorem dX11_side_0 : decode cX11_side 0 = .ok (.aload_n 0, 1) := by decide +kernel
theorem dX11_side_1 : decode cX11_side 1 = .ok (.iload_n 1, 1) := by decide +kernel
theorem dX11_side_2 : decode cX11_side 2 = .ok (.invokevirtual 244, 3) := by decide +kernel
theorem dX11_side_5 : decode cX11_side 5 = .ok (.ifCond .eq 16, 3) := by decide +kernel
theorem dX11_side_8 : decode cX11_side 8 = .ok (.aload_n 0, 1) := by decide +kernel
theorem dX11_side_9 : decode cX11_side 9 = .ok (.iload_n 2, 1) := by decide +kernel
theorem dX11_side_10 : decode cX11_side 10 = .ok (.invokevirtual 244, 3) := by decide +kernel
theorem dX11_side_13 : decode cX11_side 13 = .ok (.ifCond .eq 8, 3) := by decide +kernel
theorem dX11_side_16 : decode cX11_side 16 = .ok (.iload_n 1, 1) := by decide +kernel
theorem dX11_side_17 : decode cX11_side 17 = .ok (.iload_n 2, 1) := by decide +kernel
theorem dX11_side_18 : decode cX11_side 18 = .ok (.if_icmp .ne 6, 3) := by decide +kernel
theorem dX11_side_21 : decode cX11_side 21 = .ok (.bipush (-2), 2) := by decide +kernel
theorem dX11_side_23 : decode cX11_side 23 = .ok (.ireturn, 1) := by decide +kernel
theorem dX11_side_24 : decode cX11_side 24 = .ok (.aload_n 0, 1) := by decide +kernel
theorem dX11_side_25 : decode cX11_side 25 = .ok (.iload_n 1, 1) := by decide +kernel
theorem dX11_side_26 : decode cX11_side 26 = .ok (.iload_n 2, 1) := by decide +kernel
theorem dX11_side_27 : decode cX11_side 27 = .ok (.invokevirtual 306, 3) := by decide +kernel
theorem dX11_side_30 : decode cX11_side 30 = .ok (.iload_n 3, 1) := by decide +kernel
theorem dX11_side_31 : decode cX11_side 31 = .ok (.iconst 0, 1) := by decide +kernel
theorem dX11_side_32 : decode cX11_side 32 = .ok (.aload_n 0, 1) := by decide +kernel
theorem dX11_side_33 : decode cX11_side 33 = .ok (.getfield 303, 3) := by decide +kernel
theorem dX11_side_36 : decode cX11_side 36 = .ok (.iconst 2, 1) := by decide +kernel
theorem dX11_side_37 : decode cX11_side 37 = .ok (.isub, 1) := by decide +kernel
theorem dX11_side_38 : decode cX11_side 38 = .ok (.invokestatic 207, 3) := by decide +kernel
theorem dX11_side_41 : decode cX11_side 41 = .ok (.ifCond .ne 5, 3) := by decide +kernel
theorem dX11_side_44 : decode cX11_side 44 = .ok (.iconst (-1), 1) := by decide +kernel
theorem dX11_side_45 : decode cX11_side 45 = .ok (.ireturn, 1) := by decide +kernel
theorem dX11_side_46 : decode cX11_side 46 = .ok (.aload_n 0, 1) := by decide +kernel
theorem dX11_side_47 : decode cX11_side 47 = .ok (.getfield 61, 3) := by decide +kernel
theorem dX11_side_50 : decode cX11_side 50 = .ok (.iload_n 3, 1) := by decide +kernel
theorem dX11_side_51 : decode cX11_side 51 = .ok (.iaload, 1) := by decide +kernel
theorem dX11_side_52 : decode cX11_side 52 = .ok (.istore 4, 2) := by decide +kernel
theorem dX11_side_54 : decode cX11_side 54 = .ok (.aload_n 0, 1) := by decide +kernel
theorem dX11_side_55 : decode cX11_side 55 = .ok (.getfield 61, 3) := by decide +kernel
theorem dX11_side_58 : decode cX11_side 58 = .ok (.iload_n 3, 1) := by decide +kernel
theorem dX11_side_59 : decode cX11_side 59 = .ok (.iconst 1, 1) := by decide +kernel
theorem dX11_side_60 : decode cX11_side 60 = .ok (.iadd, 1) := by decide +kernel
theorem dX11_side_61 : decode cX11_side 61 = .ok (.iaload, 1) := by decide +kernel
theorem dX11_side_62 : decode cX11_side 62 = .ok (.istore 5, 2) := by decide +kernel
theorem dX11_side_64 : decode cX11_side 64 = .ok (.aload_n 0, 1) := by decide +kernel
theorem dX11_side_65 : decode cX11_side 65 = .ok (.getfield 21, 3) := by decide +kernel
theorem dX11_side_68 : decode cX11_side 68 = .ok (.iload 4, 2) := by decide +kernel
theorem dX11_side_70 : decode cX11_side 70 = .ok (.iaload, 1) := by decide +kernel
theorem dX11_side_71 : decode cX11_side 71 = .ok (.aload_n 0, 1) := by decide +kernel
theorem dX11_side_72 : decode cX11_side 72 = .ok (.getfield 21, 3) := by decide +kernel
theorem dX11_side_75 : decode cX11_side 75 = .ok (.iload 5, 2) := by decide +kernel
theorem dX11_side_77 : decode cX11_side 77 = .ok (.iaload, 1) := by decide +kernel
theorem dX11_side_78 : decode cX11_side 78 = .ok (.if_icmp .eq 20, 3) := by decide +kernel
theorem dX11_side_81 : decode cX11_side 81 = .ok (.aload_n 0, 1) := by decide +kernel
theorem dX11_side_82 : decode cX11_side 82 = .ok (.getfield 21, 3) := by decide +kernel
theorem dX11_side_85 : decode cX11_side 85 = .ok (.iload 4, 2) := by decide +kernel
theorem dX11_side_87 : decode cX11_side 87 = .ok (.iaload, 1) := by decide +kernel
theorem dX11_side_88 : decode cX11_side 88 = .ok (.aload_n 0, 1) := by decide +kernel
theorem dX11_side_89 : decode cX11_side 89 = .ok (.getfield 24, 3) := by decide +kernel
theorem dX11_side_92 : decode cX11_side 92 = .ok (.iload 5, 2) := by decide +kernel
theorem dX11_side_94 : decode cX11_side 94 = .ok (.iaload, 1) := by decide +kernel
theorem dX11_side_95 : decode cX11_side 95 = .ok (.if_icmp .ne 13, 3) := by decide +kernel
theorem dX11_side_98 : decode cX11_side 98 = .ok (.aload_n 0, 1) := by decide +kernel
theorem dX11_side_99 : decode cX11_side 99 = .ok (.getfield 21, 3) := by decide +kernel
theorem dX11_side_102 : decode cX11_side 102 = .ok (.iload 4, 2) := by decide +kernel
theorem dX11_side_104 : decode cX11_side 104 = .ok (.iaload, 1) := by decide +kernel
theorem dX11_side_105 : decode cX11_side 105 = .ok (.goto 10, 3) := by decide +kernel
theorem dX11_side_108 : decode cX11_side 108 = .ok (.aload_n 0, 1) := by decide +kernel
theorem dX11_side_109 : decode cX11_side 109 = .ok (.getfield 24, 3) := by decide +kernel
theorem dX11_side_112 : decode cX11_side 112 = .ok (.iload 4, 2) := by decide +kernel
theorem dX11_side_114 : decode cX11_side 114 = .ok (.iaload, 1) := by decide +kernel
theorem dX11_side_115 : decode cX11_side 115 = .ok (.istore 6, 2) := by decide +kernel
theorem dX11_side_117 : decode cX11_side 117 = .ok (.aload_n 0, 1) := by decide +kernel
theorem dX11_side_118 : decode cX11_side 118 = .ok (.getfield 98, 3) := by decide +kernel
theorem dX11_side_121 : decode cX11_side 121 = .ok (.iload_n 1, 1) := by decide +kernel
theorem dX11_side_122 : decode cX11_side 122 = .ok (.iload 6, 2) := by decide +kernel
theorem dX11_side_124 : decode cX11_side 124 = .ok (.iload_n 2, 1) := by decide +kernel
theorem dX11_side_125 : decode cX11_side 125 = .ok (.invokestatic 167, 3) := by decide +kernel
theorem dX11_side_128 : decode cX11_side 128 = .ok (.ifCond .eq 7, 3) := by decide +kernel
theorem dX11_side_131 : decode cX11_side 131 = .ok (.iconst 0, 1) := by decide +kernel
theorem dX11_side_132 : decode cX11_side 132 = .ok (.goto 4, 3) := by decide +kernel
theorem dX11_side_135 : decode cX11_side 135 = .ok (.iconst 1, 1) := by decide +kernel
theorem dX11_side_136 : decode cX11_side 136 = .ok (.ireturn, 1) := by decide +kernel
theorem dX11_greatest_0 : decode cX11_greatest 0 = .ok (.iload_n 1, 1) := by decide +kernel
theorem dX11_greatest_1 : decode cX11_greatest 1 = .ok (.iconst 4, 1) := by decide +kernel
theorem dX11_greatest_2 : decode cX11_greatest 2 = .ok (.bipush 9, 2) := by decide +kernel
theorem dX11_greatest_4 : decode cX11_greatest 4 = .ok (.invokestatic 207, 3) := by decide +kernel
theorem dX11_greatest_7 : decode cX11_greatest 7 = .ok (.ifCond .eq 12, 3) := by decide +kernel
theorem dX11_greatest_10 : decode cX11_greatest 10 = .ok (.iload_n 2, 1) := by decide +kernel
theorem dX11_greatest_11 : decode cX11_greatest 11 = .ok (.iconst 0, 1) := by decide +kernel
theorem dX11_greatest_12 : decode cX11_greatest 12 = .ok (.iconst 1, 1) := by decide +kernel
theorem dX11_greatest_13 : decode cX11_greatest 13 = .ok (.invokestatic 207, 3) := by decide +kernel
theorem dX11_greatest_16 : decode cX11_greatest 16 = .ok (.ifCond .ne 6, 3) := by decide +kernel
theorem dX11_greatest_19 : decode cX11_greatest 19 = .ok (.bipush (-2), 2) := by decide +kernel
theorem dX11_greatest_21 : decode cX11_greatest 21 = .ok (.ireturn, 1) := by decide +kernel
theorem dX11_greatest_22 : decode cX11_greatest 22 = .ok (.aload_n 0, 1) := by decide +kernel
theorem dX11_greatest_23 : decode cX11_greatest 23 = .ok (.iload_n 1, 1) := by decide +kernel
theorem dX11_greatest_24 : decode cX11_greatest 24 = .ok (.invokevirtual 101, 3) := by decide +kernel
theorem dX11_greatest_27 : decode cX11_greatest 27 = .ok (.iconst 0, 1) := by decide +kernel
theorem dX11_greatest_28 : decode cX11_greatest 28 = .ok (.istore_n 3, 1) := by decide +kernel
theorem dX11_greatest_29 : decode cX11_greatest 29 = .ok (.iconst (-1), 1) := by decide +kernel
theorem dX11_greatest_30 : decode cX11_greatest 30 = .ok (.istore 4, 2) := by decide +kernel
theorem dX11_greatest_32 : decode cX11_greatest 32 = .ok (.iconst 0, 1) := by decide +kernel
theorem dX11_greatest_33 : decode cX11_greatest 33 = .ok (.istore 5, 2) := by decide +kernel
theorem dX11_greatest_35 : decode cX11_greatest 35 = .ok (.iload 5, 2) := by decide +kernel
theorem dX11_greatest_37 : decode cX11_greatest 37 = .ok (.aload_n 0, 1) := by decide +kernel
theorem dX11_greatest_38 : decode cX11_greatest 38 = .ok (.getfield 177, 3) := by decide +kernel
theorem dX11_greatest_41 : decode cX11_greatest 41 = .ok (.if_icmp .ge 79, 3) := by decide +kernel
theorem dX11_greatest_44 : decode cX11_greatest 44 = .ok (.iconst 0, 1) := by decide +kernel
theorem dX11_greatest_45 : decode cX11_greatest 45 = .ok (.istore 6, 2) := by decide +kernel
theorem dX11_greatest_47 : decode cX11_greatest 47 = .ok (.iload 6, 2) := by decide +kernel
theorem dX11_greatest_49 : decode cX11_greatest 49 = .ok (.iload_n 1, 1) := by decide +kernel
theorem dX11_greatest_50 : decode cX11_greatest 50 = .ok (.if_icmp .ge 64, 3) := by decide +kernel
theorem dX11_greatest_53 : decode cX11_greatest 53 = .ok (.aload_n 0, 1) := by decide +kernel
theorem dX11_greatest_54 : decode cX11_greatest 54 = .ok (.iload_n 1, 1) := by decide +kernel
theorem dX11_greatest_55 : decode cX11_greatest 55 = .ok (.aload_n 0, 1) := by decide +kernel
theorem dX11_greatest_56 : decode cX11_greatest 56 = .ok (.getfield 27, 3) := by decide +kernel
theorem dX11_greatest_59 : decode cX11_greatest 59 = .ok (.iload 5, 2) := by decide +kernel
theorem dX11_greatest_61 : decode cX11_greatest 61 = .ok (.laload, 1) := by decide +kernel
theorem dX11_greatest_62 : decode cX11_greatest 62 = .ok (.iload 6, 2) := by decide +kernel
theorem dX11_greatest_64 : decode cX11_greatest 64 = .ok (.invokevirtual 240, 3) := by decide +kernel
theorem dX11_greatest_67 : decode cX11_greatest 67 = .ok (.iconst 0, 1) := by decide +kernel
theorem dX11_greatest_68 : decode cX11_greatest 68 = .ok (.istore 7, 2) := by decide +kernel
theorem dX11_greatest_70 : decode cX11_greatest 70 = .ok (.iload 7, 2) := by decide +kernel
theorem dX11_greatest_72 : decode cX11_greatest 72 = .ok (.iload_n 1, 1) := by decide +kernel
theorem dX11_greatest_73 : decode cX11_greatest 73 = .ok (.if_icmp .ge 35, 3) := by decide +kernel
theorem dX11_greatest_76 : decode cX11_greatest 76 = .ok (.aload_n 0, 1) := by decide +kernel
theorem dX11_greatest_77 : decode cX11_greatest 77 = .ok (.getfield 40, 3) := by decide +kernel
theorem dX11_greatest_80 : decode cX11_greatest 80 = .ok (.iload 7, 2) := by decide +kernel
theorem dX11_greatest_82 : decode cX11_greatest 82 = .ok (.iaload, 1) := by decide +kernel
theorem dX11_greatest_83 : decode cX11_greatest 83 = .ok (.iload_n 3, 1) := by decide +kernel
theorem dX11_greatest_84 : decode cX11_greatest 84 = .ok (.if_icmp .gt 6, 3) := by decide +kernel
theorem dX11_greatest_87 : decode cX11_greatest 87 = .ok (.goto 15, 3) := by decide +kernel
theorem dX11_greatest_90 : decode cX11_greatest 90 = .ok (.aload_n 0, 1) := by decide +kernel
theorem dX11_greatest_91 : decode cX11_greatest 91 = .ok (.getfield 40, 3) := by decide +kernel
theorem dX11_greatest_94 : decode cX11_greatest 94 = .ok (.iload 7, 2) := by decide +kernel
theorem dX11_greatest_96 : decode cX11_greatest 96 = .ok (.iaload, 1) := by decide +kernel
theorem dX11_greatest_97 : decode cX11_greatest 97 = .ok (.istore_n 3, 1) := by decide +kernel
theorem dX11_greatest_98 : decode cX11_greatest 98 = .ok (.iload 5, 2) := by decide +kernel
theorem dX11_greatest_100 : decode cX11_greatest 100 = .ok (.istore 4, 2) := by decide +kernel
theorem dX11_greatest_102 : decode cX11_greatest 102 = .ok (.iinc 7 1, 3) := by decide +kernel
theorem dX11_greatest_105 : decode cX11_greatest 105 = .ok (.goto (-35), 3) := by decide +kernel
theorem dX11_greatest_108 : decode cX11_greatest 108 = .ok (.iinc 6 1, 3) := by decide +kernel
theorem dX11_greatest_111 : decode cX11_greatest 111 = .ok (.goto (-64), 3) := by decide +kernel
theorem dX11_greatest_114 : decode cX11_greatest 114 = .ok (.iinc 5 1, 3) := by decide +kernel
theorem dX11_greatest_117 : decode cX11_greatest 117 = .ok (.goto (-82), 3) := by decide +kernel
theorem dX11_greatest_120 : decode cX11_greatest 120 = .ok (.iload_n 2, 1) := by decide +kernel
theorem dX11_greatest_121 : decode cX11_greatest 121 = .ok (.ifCond .ne 7, 3) := by decide +kernel
theorem dX11_greatest_124 : decode cX11_greatest 124 = .ok (.iload_n 3, 1) := by decide +kernel
theorem dX11_greatest_125 : decode cX11_greatest 125 = .ok (.goto 5, 3) := by decide +kernel
theorem dX11_greatest_128 : decode cX11_greatest 128 = .ok (.iload 4, 2) := by decide +kernel
theorem dX11_greatest_130 : decode cX11_greatest 130 = .ok (.ireturn, 1) := by decide +kernel
