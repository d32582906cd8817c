theorem dL_uneven_95 : decode cL_uneven 95 = .ok (.aload_n 3, 1) := by decide +kernel
theorem dL_uneven_96 : decode cL_uneven 96 = .ok (.iconst 4, 1) := by decide +kernel
theorem dL_uneven_97 : decode cL_uneven 97 = .ok (.iaload, 1) := by decide +kernel
theorem dL_uneven_98 : decode cL_uneven 98 = .ok (.iload 8, 2) := by decide +kernel
theorem dL_uneven_100 : decode cL_uneven 100 = .ok (.ishr, 1) := by decide +kernel
theorem dL_uneven_101 : decode cL_uneven 101 = .ok (.iconst 1, 1) := by decide +kernel
theorem dL_uneven_102 : decode cL_uneven 102 = .ok (.iand, 1) := by decide +kernel
theorem dL_uneven_103 : decode cL_uneven 103 = .ok (.ifCond .ne 15, 3) := by decide +kernel
theorem dL_uneven_106 : decode cL_uneven 106 = .ok (.aload_n 1, 1) := by decide +kernel
theorem dL_uneven_107 : decode cL_uneven 107 = .ok (.iload 8, 2) := by decide +kernel
theorem dL_uneven_109 : decode cL_uneven 109 = .ok (.iaload, 1) := by decide +kernel
theorem dL_uneven_110 : decode cL_uneven 110 = .ok (.iload_n 0, 1) := by decide +kernel
theorem dL_uneven_111 : decode cL_uneven 111 = .ok (.if_icmp .ne 7, 3) := by decide +kernel
theorem dL_uneven_114 : decode cL_uneven 114 = .ok (.lconst 1, 1) := by decide +kernel
theorem dL_uneven_115 : decode cL_uneven 115 = .ok (.goto 4, 3) := by decide +kernel
theorem dL_uneven_118 : decode cL_uneven 118 = .ok (.lconst 0, 1) := by decide +kernel
theorem dL_uneven_119 : decode cL_uneven 119 = .ok (.ladd, 1) := by decide +kernel
theorem dL_uneven_120 : decode cL_uneven 120 = .ok (.lstore 4, 2) := by decide +kernel
theorem dL_uneven_122 : decode cL_uneven 122 = .ok (.iinc 8 1, 3) := by decide +kernel
theorem dL_uneven_125 : decode cL_uneven 125 = .ok (.goto (-116), 3) := by decide +kernel
theorem dL_uneven_128 : decode cL_uneven 128 = .ok (.iload_n 0, 1) := by decide +kernel
theorem dL_uneven_129 : decode cL_uneven 129 = .ok (.i2l, 1) := by decide +kernel
theorem dL_uneven_130 : decode cL_uneven 130 = .ok (.iload_n 0, 1) := by decide +kernel
theorem dL_uneven_131 : decode cL_uneven 131 = .ok (.i2l, 1) := by decide +kernel
theorem dL_uneven_132 : decode cL_uneven 132 = .ok (.lload 6, 2) := by decide +kernel
theorem dL_uneven_134 : decode cL_uneven 134 = .ok (.lmul, 1) := by decide +kernel
theorem dL_uneven_135 : decode cL_uneven 135 = .ok (.lload 4, 2) := by decide +kernel
theorem dL_uneven_137 : decode cL_uneven 137 = .ok (.lload 4, 2) := by decide +kernel
theorem dL_uneven_139 : decode cL_uneven 139 = .ok (.lmul, 1) := by decide +kernel
theorem dL_uneven_140 : decode cL_uneven 140 = .ok (.lsub, 1) := by decide +kernel
theorem dL_uneven_141 : decode cL_uneven 141 = .ok (.lmul, 1) := by decide +kernel
theorem dL_uneven_142 : decode cL_uneven 142 = .ok (.lreturn, 1) := by decide +kernel
theorem dL_count_0 : decode cL_count 0 = .ok (.iconst 0, 1) := by decide +kernel
theorem dL_count_1 : decode cL_count 1 = .ok (.istore 5, 2) := by decide +kernel
theorem dL_count_3 : decode cL_count 3 = .ok (.iconst 0, 1) := by decide +kernel
theorem dL_count_4 : decode cL_count 4 = .ok (.istore 6, 2) := by decide +kernel
theorem dL_count_6 : decode cL_count 6 = .ok (.iload 6, 2) := by decide +kernel
theorem dL_count_8 : decode cL_count 8 = .ok (.aload 4, 2) := by decide +kernel
theorem dL_count_10 : decode cL_count 10 = .ok (.iconst 1, 1) := by decide +kernel
theorem dL_count_11 : decode cL_count 11 = .ok (.iaload, 1) := by decide +kernel
theorem dL_count_12 : decode cL_count 12 = .ok (.if_icmp .ge 47, 3) := by decide +kernel
theorem dL_count_15 : decode cL_count 15 = .ok (.iload 5, 2) := by decide +kernel
theorem dL_count_17 : decode cL_count 17 = .ok (.aload 4, 2) := by decide +kernel
theorem dL_count_19 : decode cL_count 19 = .ok (.iconst 4, 1) := by decide +kernel
theorem dL_count_20 : decode cL_count 20 = .ok (.iaload, 1) := by decide +kernel
theorem dL_count_21 : decode cL_count 21 = .ok (.iload 6, 2) := by decide +kernel
theorem dL_count_23 : decode cL_count 23 = .ok (.ishr, 1) := by decide +kernel
theorem dL_count_24 : decode cL_count 24 = .ok (.iconst 1, 1) := by decide +kernel
theorem dL_count_25 : decode cL_count 25 = .ok (.iand, 1) := by decide +kernel
theorem dL_count_26 : decode cL_count 26 = .ok (.ifCond .ne 23, 3) := by decide +kernel
theorem dL_count_29 : decode cL_count 29 = .ok (.aload_n 2, 1) := by decide +kernel
theorem dL_count_30 : decode cL_count 30 = .ok (.iload 6, 2) := by decide +kernel
theorem dL_count_32 : decode cL_count 32 = .ok (.iaload, 1) := by decide +kernel
theorem dL_count_33 : decode cL_count 33 = .ok (.iload_n 0, 1) := by decide +kernel
theorem dL_count_34 : decode cL_count 34 = .ok (.if_icmp .ne 15, 3) := by decide +kernel
theorem dL_count_37 : decode cL_count 37 = .ok (.aload_n 3, 1) := by decide +kernel
theorem dL_count_38 : decode cL_count 38 = .ok (.iload 6, 2) := by decide +kernel
theorem dL_count_40 : decode cL_count 40 = .ok (.iaload, 1) := by decide +kernel
theorem dL_count_41 : decode cL_count 41 = .ok (.iload_n 1, 1) := by decide +kernel
theorem dL_count_42 : decode cL_count 42 = .ok (.if_icmp .ne 7, 3) := by decide +kernel
theorem dL_count_45 : decode cL_count 45 = .ok (.iconst 1, 1) := by decide +kernel
theorem dL_count_46 : decode cL_count 46 = .ok (.goto 4, 3) := by decide +kernel
theorem dL_count_49 : decode cL_count 49 = .ok (.iconst 0, 1) := by decide +kernel
theorem dL_count_50 : decode cL_count 50 = .ok (.iadd, 1) := by decide +kernel
theorem dL_count_51 : decode cL_count 51 = .ok (.istore 5, 2) := by decide +kernel
theorem dL_count_53 : decode cL_count 53 = .ok (.iinc 6 1, 3) := by decide +kernel
theorem dL_count_56 : decode cL_count 56 = .ok (.goto (-50), 3) := by decide +kernel
theorem dL_count_59 : decode cL_count 59 = .ok (.iload 5, 2) := by decide +kernel
theorem dL_count_61 : decode cL_count 61 = .ok (.ireturn, 1) := by decide +kernel
theorem dL_isSo_0 : decode cL_isSo 0 = .ok (.iconst (-1), 1) := by decide +kernel
theorem dL_isSo_1 : decode cL_isSo 1 = .ok (.istore 10, 2) := by decide +kernel
theorem dL_isSo_3 : decode cL_isSo 3 = .ok (.aload_n 0, 1) := by decide +kernel
theorem dL_isSo_4 : decode cL_isSo 4 = .ok (.invokevirtual 55, 3) := by decide +kernel
theorem dL_isSo_7 : decode cL_isSo 7 = .ok (.aload 9, 2) := by decide +kernel
theorem dL_isSo_9 : decode cL_isSo 9 = .ok (.iconst 1, 1) := by decide +kernel
theorem dL_isSo_10 : decode cL_isSo 10 = .ok (.iaload, 1) := by decide +kernel
theorem dL_isSo_11 : decode cL_isSo 11 = .ok (.if_icmp .ne 7, 3) := by decide +kernel
theorem dL_isSo_14 : decode cL_isSo 14 = .ok (.iconst 1, 1) := by decide +kernel
theorem dL_isSo_15 : decode cL_isSo 15 = .ok (.goto 4, 3) := by decide +kernel
theorem dL_isSo_18 : decode cL_isSo 18 = .ok (.iconst 0, 1) := by decide +kernel
theorem dL_isSo_19 : decode cL_isSo 19 = .ok (.istore 11, 2) := by decide +kernel
theorem dL_isSo_21 : decode cL_isSo 21 = .ok (.iconst 0, 1) := by decide +kernel
theorem dL_isSo_22 : decode cL_isSo 22 = .ok (.istore 12, 2) := by decide +kernel
theorem dL_isSo_24 : decode cL_isSo 24 = .ok (.iload 12, 2) := by decide +kernel
theorem dL_isSo_26 : decode cL_isSo 26 = .ok (.aload 9, 2) := by decide +kernel
theorem dL_isSo_28 : decode cL_isSo 28 = .ok (.iconst 1, 1) := by decide +kernel
theorem dL_isSo_29 : decode cL_isSo 29 = .ok (.iaload, 1) := by decide +kernel
theorem dL_isSo_30 : decode cL_isSo 30 = .ok (.if_icmp .ge 173, 3) := by decide +kernel
theorem dL_isSo_33 : decode cL_isSo 33 = .ok (.iload 11, 2) := by decide +kernel
theorem dL_isSo_35 : decode cL_isSo 35 = .ok (.ifCond .eq 168, 3) := by decide +kernel
theorem dL_isSo_38 : decode cL_isSo 38 = .ok (.iload 10, 2) := by decide +kernel
theorem dL_isSo_40 : decode cL_isSo 40 = .ok (.ifCond .ge 30, 3) := by decide +kernel
theorem dL_isSo_43 : decode cL_isSo 43 = .ok (.iload 12, 2) := by decide +kernel
theorem dL_isSo_45 : decode cL_isSo 45 = .ok (.aload_n 2, 1) := by decide +kernel
theorem dL_isSo_46 : decode cL_isSo 46 = .ok (.aload 4, 2) := by decide +kernel
theorem dL_isSo_48 : decode cL_isSo 48 = .ok (.aload 5, 2) := by decide +kernel
theorem dL_isSo_50 : decode cL_isSo 50 = .ok (.aload 6, 2) := by decide +kernel
theorem dL_isSo_52 : decode cL_isSo 52 = .ok (.aload 7, 2) := by decide +kernel
theorem dL_isSo_54 : decode cL_isSo 54 = .ok (.invokestatic 59, 3) := by decide +kernel
theorem dL_isSo_57 : decode cL_isSo 57 = .ok (.aload 7, 2) := by decide +kernel
theorem dL_isSo_59 : decode cL_isSo 59 = .ok (.iload 12, 2) := by decide +kernel
theorem dL_isSo_61 : decode cL_isSo 61 = .ok (.iaload, 1) := by decide +kernel
theorem dL_isSo_62 : decode cL_isSo 62 = .ok (.if_icmp .eq 8, 3) := by decide +kernel
theorem dL_isSo_65 : decode cL_isSo 65 = .ok (.iload 12, 2) := by decide +kernel
theorem dL_isSo_67 : decode cL_isSo 67 = .ok (.goto 5, 3) := by decide +kernel
theorem dL_isSo_70 : decode cL_isSo 70 = .ok (.iload 10, 2) := by decide +kernel
theorem dL_isSo_72 : decode cL_isSo 72 = .ok (.istore 10, 2) := by decide +kernel
theorem dL_isSo_74 : decode cL_isSo 74 = .ok (.aload_n 0, 1) := by decide +kernel
theorem dL_isSo_75 : decode cL_isSo 75 = .ok (.iload 12, 2) := by decide +kernel
theorem dL_isSo_77 : decode cL_isSo 77 = .ok (.invokevirtual 62, 3) := by decide +kernel
theorem dL_isSo_80 : decode cL_isSo 80 = .ok (.aload 5, 2) := by decide +kernel
theorem dL_isSo_82 : decode cL_isSo 82 = .ok (.iload 12, 2) := by decide +kernel
theorem dL_isSo_84 : decode cL_isSo 84 = .ok (.iaload, 1) := by decide +kernel
theorem dL_isSo_85 : decode cL_isSo 85 = .ok (.if_icmp .ne 109, 3) := by decide +kernel
theorem dL_isSo_88 : decode cL_isSo 88 = .ok (.aload_n 0, 1) := by decide +kernel
theorem dL_isSo_89 : decode cL_isSo 89 = .ok (.iload 12, 2) := by decide +kernel
theorem dL_isSo_91 : decode cL_isSo 91 = .ok (.invokevirtual 65, 3) := by decide +kernel
theorem dL_isSo_94 : decode cL_isSo 94 = .ok (.aload 6, 2) := by decide +kernel
theorem dL_isSo_96 : decode cL_isSo 96 = .ok (.iload 12, 2) := by decide +kernel
theorem dL_isSo_98 : decode cL_isSo 98 = .ok (.iaload, 1) := by decide +kernel
theorem dL_isSo_99 : decode cL_isSo 99 = .ok (.if_icmp .ne 95, 3) := by decide +kernel
theorem dL_isSo_102 : decode cL_isSo 102 = .ok (.aload_n 0, 1) := by decide +kernel
theorem dL_isSo_103 : decode cL_isSo 103 = .ok (.iload 12, 2) := by decide +kernel
theorem dL_isSo_105 : decode cL_isSo 105 = .ok (.invokevirtual 68, 3) := by decide +kernel
theorem dL_isSo_108 : decode cL_isSo 108 = .ok (.aload 7, 2) := by decide +kernel
theorem dL_isSo_110 : decode cL_isSo 110 = .ok (.iload 12, 2) := by decide +kernel
theorem dL_isSo_112 : decode cL_isSo 112 = .ok (.iaload, 1) := by decide +kernel
theorem dL_isSo_113 : decode cL_isSo 113 = .ok (.if_icmp .ne 81, 3) := by decide +kernel
theorem dL_isSo_116 : decode cL_isSo 116 = .ok (.aload_n 0, 1) := by decide +kernel
theorem dL_isSo_117 : decode cL_isSo 117 = .ok (.iload 12, 2) := by decide +kernel
theorem dL_isSo_119 : decode cL_isSo 119 = .ok (.invokevirtual 70, 3) := by decide +kernel
theorem dL_isSo_122 : decode cL_isSo 122 = .ok (.aload 9, 2) := by decide +kernel
theorem dL_isSo_124 : decode cL_isSo 124 = .ok (.iconst 4, 1) := by decide +kernel
theorem dL_isSo_125 : decode cL_isSo 125 = .ok (.iaload, 1) := by decide +kernel
theorem dL_isSo_126 : decode cL_isSo 126 = .ok (.iload 12, 2) := by decide +kernel
theorem dL_isSo_128 : decode cL_isSo 128 = .ok (.ishr, 1) := by decide +kernel
theorem dL_isSo_129 : decode cL_isSo 129 = .ok (.iconst 1, 1) := by decide +kernel
theorem dL_isSo_130 : decode cL_isSo 130 = .ok (.iand, 1) := by decide +kernel
theorem dL_isSo_131 : decode cL_isSo 131 = .ok (.iconst 1, 1) := by decide +kernel
theorem dL_isSo_132 : decode cL_isSo 132 = .ok (.if_icmp .ne 7, 3) := by decide +kernel
theorem dL_isSo_135 : decode cL_isSo 135 = .ok (.iconst 1, 1) := by decide +kernel
theorem dL_isSo_136 : decode cL_isSo 136 = .ok (.goto 4, 3) := by decide +kernel
theorem dL_isSo_139 : decode cL_isSo 139 = .ok (.iconst 0, 1) := by decide +kernel
theorem dL_isSo_140 : decode cL_isSo 140 = .ok (.if_icmp .ne 54, 3) := by decide +kernel
theorem dL_isSo_143 : decode cL_isSo 143 = .ok (.aload_n 0, 1) := by decide +kernel
theorem dL_isSo_144 : decode cL_isSo 144 = .ok (.iconst 3, 1) := by decide +kernel
theorem dL_isSo_145 : decode cL_isSo 145 = .ok (.iload 12, 2) := by decide +kernel
theorem dL_isSo_147 : decode cL_isSo 147 = .ok (.iconst 0, 1) := by decide +kernel
theorem dL_isSo_148 : decode cL_isSo 148 = .ok (.iconst 0, 1) := by decide +kernel
theorem dL_isSo_149 : decode cL_isSo 149 = .ok (.invokestatic 74, 3) := by decide +kernel
theorem dL_isSo_152 : decode cL_isSo 152 = .ok (.aload 9, 2) := by decide +kernel
theorem dL_isSo_154 : decode cL_isSo 154 = .ok (.iconst 2, 1) := by decide +kernel
theorem dL_isSo_155 : decode cL_isSo 155 = .ok (.iaload, 1) := by decide +kernel
theorem dL_isSo_156 : decode cL_isSo 156 = .ok (.aload_n 2, 1) := by decide +kernel
theorem dL_isSo_157 : decode cL_isSo 157 = .ok (.iload 12, 2) := by decide +kernel
theorem dL_isSo_159 : decode cL_isSo 159 = .ok (.iaload, 1) := by decide +kernel
theorem dL_isSo_160 : decode cL_isSo 160 = .ok (.iconst 4, 1) := by decide +kernel
theorem dL_isSo_161 : decode cL_isSo 161 = .ok (.idiv, 1) := by decide +kernel
theorem dL_isSo_162 : decode cL_isSo 162 = .ok (.ishr, 1) := by decide +kernel
theorem dL_isSo_163 : decode cL_isSo 163 = .ok (.iconst 1, 1) := by decide +kernel
theorem dL_isSo_164 : decode cL_isSo 164 = .ok (.iand, 1) := by decide +kernel
theorem dL_isSo_165 : decode cL_isSo 165 = .ok (.iconst 1, 1) := by decide +kernel
theorem dL_isSo_166 : decode cL_isSo 166 = .ok (.if_icmp .ne 19, 3) := by decide +kernel
theorem dL_isSo_169 : decode cL_isSo 169 = .ok (.iload 12, 2) := by decide +kernel
theorem dL_isSo_171 : decode cL_isSo 171 = .ok (.aload_n 2, 1) := by decide +kernel
theorem dL_isSo_172 : decode cL_isSo 172 = .ok (.aload_n 3, 1) := by decide +kernel
theorem dL_isSo_173 : decode cL_isSo 173 = .ok (.aload 4, 2) := by decide +kernel
theorem dL_isSo_175 : decode cL_isSo 175 = .ok (.aload 8, 2) := by decide +kernel
theorem dL_isSo_177 : decode cL_isSo 177 = .ok (.aload 9, 2) := by decide +kernel
theorem dL_isSo_179 : decode cL_isSo 179 = .ok (.invokestatic 51, 3) := by decide +kernel
theorem dL_isSo_182 : decode cL_isSo 182 = .ok (.goto 5, 3) := by decide +kernel
theorem dL_isSo_185 : decode cL_isSo 185 = .ok (.bipush (-3), 2) := by decide +kernel
theorem dL_isSo_187 : decode cL_isSo 187 = .ok (.if_icmp .ne 7, 3) := by decide +kernel
theorem dL_isSo_190 : decode cL_isSo 190 = .ok (.iconst 1, 1) := by decide +kernel
theorem dL_isSo_191 : decode cL_isSo 191 = .ok (.goto 4, 3) := by decide +kernel
theorem dL_isSo_194 : decode cL_isSo 194 = .ok (.iconst 0, 1) := by decide +kernel
theorem dL_isSo_195 : decode cL_isSo 195 = .ok (.istore 11, 2) := by decide +kernel
theorem dL_isSo_197 : decode cL_isSo 197 = .ok (.iinc 12 1, 3) := by decide +kernel
theorem dL_isSo_200 : decode cL_isSo 200 = .ok (.goto (-176), 3) := by decide +kernel
theorem dL_isSo_203 : decode cL_isSo 203 = .ok (.iconst 0, 1) := by decide +kernel
theorem dL_isSo_204 : decode cL_isSo 204 = .ok (.istore 12, 2) := by decide +kernel
theorem dL_isSo_206 : decode cL_isSo 206 = .ok (.iload 12, 2) := by decide +kernel
theorem dL_isSo_208 : decode cL_isSo 208 = .ok (.aload 9, 2) := by decide +kernel
theorem dL_isSo_210 : decode cL_isSo 210 = .ok (.iconst 0, 1) := by decide +kernel
theorem dL_isSo_211 : decode cL_isSo 211 = .ok (.iaload, 1) := by decide +kernel
theorem dL_isSo_212 : decode cL_isSo 212 = .ok (.if_icmp .ge 106, 3) := by decide +kernel
theorem dL_isSo_215 : decode cL_isSo 215 = .ok (.iload 11, 2) := by decide +kernel
theorem dL_isSo_217 : decode cL_isSo 217 = .ok (.ifCond .eq 101, 3) := by decide +kernel
theorem dL_isSo_220 : decode cL_isSo 220 = .ok (.aload 9, 2) := by decide +kernel
theorem dL_isSo_222 : decode cL_isSo 222 = .ok (.iconst 2, 1) := by decide +kernel
theorem dL_isSo_223 : decode cL_isSo 223 = .ok (.iaload, 1) := by decide +kernel
theorem dL_isSo_224 : decode cL_isSo 224 = .ok (.iload 12, 2) := by decide +kernel
theorem dL_isSo_226 : decode cL_isSo 226 = .ok (.ishr, 1) := by decide +kernel
theorem dL_isSo_227 : decode cL_isSo 227 = .ok (.iconst 1, 1) := by decide +kernel
theorem dL_isSo_228 : decode cL_isSo 228 = .ok (.iand, 1) := by decide +kernel
theorem dL_isSo_229 : decode cL_isSo 229 = .ok (.iconst 1, 1) := by decide +kernel
theorem dL_isSo_230 : decode cL_isSo 230 = .ok (.if_icmp .ne 7, 3) := by decide +kernel
theorem dL_isSo_233 : decode cL_isSo 233 = .ok (.iconst 1, 1) := by decide +kernel
theorem dL_isSo_234 : decode cL_isSo 234 = .ok (.goto 4, 3) := by decide +kernel
theorem dL_isSo_237 : decode cL_isSo 237 = .ok (.iconst 0, 1) := by decide +kernel
theorem dL_isSo_238 : decode cL_isSo 238 = .ok (.istore 13, 2) := by decide +kernel
theorem dL_isSo_240 : decode cL_isSo 240 = .ok (.aload_n 0, 1) := by decide +kernel
theorem dL_isSo_241 : decode cL_isSo 241 = .ok (.iload 12, 2) := by decide +kernel
theorem dL_isSo_243 : decode cL_isSo 243 = .ok (.invokevirtual 78, 3) := by decide +kernel
theorem dL_isSo_246 : decode cL_isSo 246 = .ok (.aload 8, 2) := by decide +kernel
theorem dL_isSo_248 : decode cL_isSo 248 = .ok (.iload 12, 2) := by decide +kernel
theorem dL_isSo_250 : decode cL_isSo 250 = .ok (.iaload, 1) := by decide +kernel
theorem dL_isSo_251 : decode cL_isSo 251 = .ok (.invokestatic 81, 3) := by decide +kernel
theorem dL_isSo_254 : decode cL_isSo 254 = .ok (.if_icmp .ne 55, 3) := by decide +kernel
theorem dL_isSo_257 : decode cL_isSo 257 = .ok (.aload_n 0, 1) := by decide +kernel
theorem dL_isSo_258 : decode cL_isSo 258 = .ok (.iload 12, 2) := by decide +kernel
theorem dL_isSo_260 : decode cL_isSo 260 = .ok (.invokevirtual 82, 3) := by decide +kernel
theorem dL_isSo_263 : decode cL_isSo 263 = .ok (.iload 13, 2) := by decide +kernel
theorem dL_isSo_265 : decode cL_isSo 265 = .ok (.if_icmp .ne 44, 3) := by decide +kernel
theorem dL_isSo_268 : decode cL_isSo 268 = .ok (.aload_n 0, 1) := by decide +kernel
theorem dL_isSo_269 : decode cL_isSo 269 = .ok (.iconst 4, 1) := by decide +kernel
theorem dL_isSo_270 : decode cL_isSo 270 = .ok (.iload 12, 2) := by decide +kernel
theorem dL_isSo_272 : decode cL_isSo 272 = .ok (.iconst 0, 1) := by decide +kernel
theorem dL_isSo_273 : decode cL_isSo 273 = .ok (.iconst 0, 1) := by decide +kernel
theorem dL_isSo_274 : decode cL_isSo 274 = .ok (.invokestatic 74, 3) := by decide +kernel
theorem dL_isSo_277 : decode cL_isSo 277 = .ok (.iload 13, 2) := by decide +kernel
theorem dL_isSo_279 : decode cL_isSo 279 = .ok (.ifCond .eq 21, 3) := by decide +kernel
theorem dL_isSo_282 : decode cL_isSo 282 = .ok (.iload 12, 2) := by decide +kernel
theorem dL_isSo_284 : decode cL_isSo 284 = .ok (.aload_n 2, 1) := by decide +kernel
theorem dL_isSo_285 : decode cL_isSo 285 = .ok (.aload_n 3, 1) := by decide +kernel
theorem dL_isSo_286 : decode cL_isSo 286 = .ok (.aload 4, 2) := by decide +kernel
theorem dL_isSo_288 : decode cL_isSo 288 = .ok (.aload 5, 2) := by decide +kernel
theorem dL_isSo_290 : decode cL_isSo 290 = .ok (.aload 8, 2) := by decide +kernel
theorem dL_isSo_292 : decode cL_isSo 292 = .ok (.aload 9, 2) := by decide +kernel
theorem dL_isSo_294 : decode cL_isSo 294 = .ok (.invokestatic 85, 3) := by decide +kernel
theorem dL_isSo_297 : decode cL_isSo 297 = .ok (.goto 5, 3) := by decide +kernel
theorem dL_isSo_300 : decode cL_isSo 300 = .ok (.bipush (-3), 2) := by decide +kernel
theorem dL_isSo_302 : decode cL_isSo 302 = .ok (.if_icmp .ne 7, 3) := by decide +kernel
theorem dL_isSo_305 : decode cL_isSo 305 = .ok (.iconst 1, 1) := by decide +kernel
theorem dL_isSo_306 : decode cL_isSo 306 = .ok (.goto 4, 3) := by decide +kernel
theorem dL_isSo_309 : decode cL_isSo 309 = .ok (.iconst 0, 1) := by decide +kernel
theorem dL_isSo_310 : decode cL_isSo 310 = .ok (.istore 11, 2) := by decide +kernel
theorem dL_isSo_312 : decode cL_isSo 312 = .ok (.iinc 12 1, 3) := by decide +kernel
theorem dL_isSo_315 : decode cL_isSo 315 = .ok (.goto (-109), 3) := by decide +kernel
theorem dL_isSo_318 : decode cL_isSo 318 = .ok (.iconst 0, 1) := by decide +kernel
theorem dL_isSo_319 : decode cL_isSo 319 = .ok (.istore 12, 2) := by decide +kernel
theorem dL_isSo_321 : decode cL_isSo 321 = .ok (.iload 12, 2) := by decide +kernel
theorem dL_isSo_323 : decode cL_isSo 323 = .ok (.iconst 4, 1) := by decide +kernel
theorem dL_isSo_324 : decode cL_isSo 324 = .ok (.if_icmp .ge 90, 3) := by decide +kernel
theorem dL_isSo_327 : decode cL_isSo 327 = .ok (.iload 11, 2) := by decide +kernel
theorem dL_isSo_329 : decode cL_isSo 329 = .ok (.ifCond .eq 85, 3) := by decide +kernel
theorem dL_isSo_332 : decode cL_isSo 332 = .ok (.iconst 0, 1) := by decide +kernel
theorem dL_isSo_333 : decode cL_isSo 333 = .ok (.istore 13, 2) := by decide +kernel
theorem dL_isSo_335 : decode cL_isSo 335 = .ok (.iconst 0, 1) := by decide +kernel
theorem dL_isSo_336 : decode cL_isSo 336 = .ok (.istore 14, 2) := by decide +kernel
theorem dL_isSo_338 : decode cL_isSo 338 = .ok (.iload 14, 2) := by decide +kernel
theorem dL_isSo_340 : decode cL_isSo 340 = .ok (.aload 9, 2) := by decide +kernel
theorem dL_isSo_342 : decode cL_isSo 342 = .ok (.iconst 1, 1) := by decide +kernel
theorem dL_isSo_343 : decode cL_isSo 343 = .ok (.iaload, 1) := by decide +kernel
theorem dL_isSo_344 : decode cL_isSo 344 = .ok (.if_icmp .ge 46, 3) := by decide +kernel
theorem dL_isSo_347 : decode cL_isSo 347 = .ok (.iload 13, 2) := by decide +kernel
theorem dL_isSo_349 : decode cL_isSo 349 = .ok (.aload_n 2, 1) := by decide +kernel
theorem dL_isSo_350 : decode cL_isSo 350 = .ok (.iload 14, 2) := by decide +kernel
theorem dL_isSo_352 : decode cL_isSo 352 = .ok (.iaload, 1) := by decide +kernel
theorem dL_isSo_353 : decode cL_isSo 353 = .ok (.iconst 4, 1) := by decide +kernel
theorem dL_isSo_354 : decode cL_isSo 354 = .ok (.irem, 1) := by decide +kernel
theorem dL_isSo_355 : decode cL_isSo 355 = .ok (.iload 12, 2) := by decide +kernel
theorem dL_isSo_357 : decode cL_isSo 357 = .ok (.if_icmp .ne 23, 3) := by decide +kernel
theorem dL_isSo_360 : decode cL_isSo 360 = .ok (.aload 9, 2) := by decide +kernel
theorem dL_isSo_362 : decode cL_isSo 362 = .ok (.iconst 4, 1) := by decide +kernel
theorem dL_isSo_363 : decode cL_isSo 363 = .ok (.iaload, 1) := by decide +kernel
theorem dL_isSo_364 : decode cL_isSo 364 = .ok (.iload 14, 2) := by decide +kernel
theorem dL_isSo_366 : decode cL_isSo 366 = .ok (.ishr, 1) := by decide +kernel
theorem dL_isSo_367 : decode cL_isSo 367 = .ok (.iconst 1, 1) := by decide +kernel
theorem dL_isSo_368 : decode cL_isSo 368 = .ok (.iand, 1) := by decide +kernel
theorem dL_isSo_369 : decode cL_isSo 369 = .ok (.ifCond .ne 11, 3) := by decide +kernel
theorem dL_isSo_372 : decode cL_isSo 372 = .ok (.aload 5, 2) := by decide +kernel
theorem dL_isSo_374 : decode cL_isSo 374 = .ok (.iload 14, 2) := by decide +kernel
theorem dL_isSo_376 : decode cL_isSo 376 = .ok (.iaload, 1) := by decide +kernel
theorem dL_isSo_377 : decode cL_isSo 377 = .ok (.goto 4, 3) := by decide +kernel
theorem dL_isSo_380 : decode cL_isSo 380 = .ok (.iconst 0, 1) := by decide +kernel
theorem dL_isSo_381 : decode cL_isSo 381 = .ok (.iadd, 1) := by decide +kernel
theorem dL_isSo_382 : decode cL_isSo 382 = .ok (.istore 13, 2) := by decide +kernel
theorem dL_isSo_384 : decode cL_isSo 384 = .ok (.iinc 14 1, 3) := by decide +kernel
theorem dL_isSo_387 : decode cL_isSo 387 = .ok (.goto (-49), 3) := by decide +kernel
theorem dL_isSo_390 : decode cL_isSo 390 = .ok (.aload_n 0, 1) := by decide +kernel
theorem dL_isSo_391 : decode cL_isSo 391 = .ok (.iload 12, 2) := by decide +kernel
theorem dL_isSo_393 : decode cL_isSo 393 = .ok (.invokevirtual 88, 3) := by decide +kernel
theorem dL_isSo_396 : decode cL_isSo 396 = .ok (.iload 13, 2) := by decide +kernel
theorem dL_isSo_398 : decode cL_isSo 398 = .ok (.if_icmp .ne 7, 3) := by decide +kernel
theorem dL_isSo_401 : decode cL_isSo 401 = .ok (.iconst 1, 1) := by decide +kernel
theorem dL_isSo_402 : decode cL_isSo 402 = .ok (.goto 4, 3) := by decide +kernel
theorem dL_isSo_405 : decode cL_isSo 405 = .ok (.iconst 0, 1) := by decide +kernel
theorem dL_isSo_406 : decode cL_isSo 406 = .ok (.istore 11, 2) := by decide +kernel
theorem dL_isSo_408 : decode cL_isSo 408 = .ok (.iinc 12 1, 3) := by decide +kernel
theorem dL_isSo_411 : decode cL_isSo 411 = .ok (.goto (-90), 3) := by decide +kernel
theorem dL_isSo_414 : decode cL_isSo 414 = .ok (.aload 9, 2) := by decide +kernel
theorem dL_isSo_416 : decode cL_isSo 416 = .ok (.iconst 1, 1) := by decide +kernel
theorem dL_isSo_417 : decode cL_isSo 417 = .ok (.iaload, 1) := by decide +kernel
theorem dL_isSo_418 : decode cL_isSo 418 = .ok (.ifCond .eq 11, 3) := by decide +kernel
theorem dL_isSo_421 : decode cL_isSo 421 = .ok (.iload_n 1, 1) := by decide +kernel
theorem dL_isSo_422 : decode cL_isSo 422 = .ok (.iconst 4, 1) := by decide +kernel
theorem dL_isSo_423 : decode cL_isSo 423 = .ok (.invokestatic 91, 3) := by decide +kernel
theorem dL_isSo_426 : decode cL_isSo 426 = .ok (.ifCond .ne 17, 3) := by decide +kernel
theorem dL_isSo_429 : decode cL_isSo 429 = .ok (.iconst 2, 1) := by decide +kernel
theorem dL_isSo_430 : decode cL_isSo 430 = .ok (.iload_n 1, 1) := by decide +kernel
theorem dL_isSo_431 : decode cL_isSo 431 = .ok (.iconst 2, 1) := by decide +kernel
theorem dL_isSo_432 : decode cL_isSo 432 = .ok (.ishr, 1) := by decide +kernel
theorem dL_isSo_433 : decode cL_isSo 433 = .ok (.sipush 999, 3) := by decide +kernel
theorem dL_isSo_436 : decode cL_isSo 436 = .ok (.invokestatic 91, 3) := by decide +kernel
theorem dL_isSo_439 : decode cL_isSo 439 = .ok (.iadd, 1) := by decide +kernel
theorem dL_isSo_440 : decode cL_isSo 440 = .ok (.goto 16, 3) := by decide +kernel
theorem dL_isSo_443 : decode cL_isSo 443 = .ok (.aload 4, 2) := by decide +kernel
theorem dL_isSo_445 : decode cL_isSo 445 = .ok (.iload_n 1, 1) := by decide +kernel
theorem dL_isSo_446 : decode cL_isSo 446 = .ok (.iconst 3, 1) := by decide +kernel
theorem dL_isSo_447 : decode cL_isSo 447 = .ok (.ishr, 1) := by decide +kernel
theorem dL_isSo_448 : decode cL_isSo 448 = .ok (.aload 9, 2) := by decide +kernel
theorem dL_isSo_450 : decode cL_isSo 450 = .ok (.iconst 1, 1) := by decide +kernel
theorem dL_isSo_451 : decode cL_isSo 451 = .ok (.iaload, 1) := by decide +kernel
theorem dL_isSo_452 : decode cL_isSo 452 = .ok (.invokestatic 91, 3) := by decide +kernel
theorem dL_isSo_455 : decode cL_isSo 455 = .ok (.iaload, 1) := by decide +kernel
theorem dL_isSo_456 : decode cL_isSo 456 = .ok (.istore 12, 2) := by decide +kernel
theorem dL_isSo_458 : decode cL_isSo 458 = .ok (.aload 9, 2) := by decide +kernel
theorem dL_isSo_460 : decode cL_isSo 460 = .ok (.iconst 1, 1) := by decide +kernel
theorem dL_isSo_461 : decode cL_isSo 461 = .ok (.iaload, 1) := by decide +kernel
theorem dL_isSo_462 : decode cL_isSo 462 = .ok (.ifCond .eq 11, 3) := by decide +kernel
theorem dL_isSo_465 : decode cL_isSo 465 = .ok (.iload_n 1, 1) := by decide +kernel
theorem dL_isSo_466 : decode cL_isSo 466 = .ok (.iconst 3, 1) := by decide +kernel
theorem dL_isSo_467 : decode cL_isSo 467 = .ok (.invokestatic 91, 3) := by decide +kernel
theorem dL_isSo_470 : decode cL_isSo 470 = .ok (.ifCond .ne 16, 3) := by decide +kernel
theorem dL_isSo_473 : decode cL_isSo 473 = .ok (.iconst 1, 1) := by decide +kernel
theorem dL_isSo_474 : decode cL_isSo 474 = .ok (.iload_n 1, 1) := by decide +kernel
theorem dL_isSo_475 : decode cL_isSo 475 = .ok (.iconst 4, 1) := by decide +kernel
theorem dL_isSo_476 : decode cL_isSo 476 = .ok (.ishr, 1) := by decide +kernel
theorem dL_isSo_477 : decode cL_isSo 477 = .ok (.iload 12, 2) := by decide +kernel
theorem dL_isSo_479 : decode cL_isSo 479 = .ok (.invokestatic 91, 3) := by decide +kernel
theorem dL_isSo_482 : decode cL_isSo 482 = .ok (.iadd, 1) := by decide +kernel
theorem dL_isSo_483 : decode cL_isSo 483 = .ok (.goto 16, 3) := by decide +kernel
theorem dL_isSo_486 : decode cL_isSo 486 = .ok (.aload 5, 2) := by decide +kernel
theorem dL_isSo_488 : decode cL_isSo 488 = .ok (.iload_n 1, 1) := by decide +kernel
theorem dL_isSo_489 : decode cL_isSo 489 = .ok (.iconst 3, 1) := by decide +kernel
theorem dL_isSo_490 : decode cL_isSo 490 = .ok (.ishr, 1) := by decide +kernel
theorem dL_isSo_491 : decode cL_isSo 491 = .ok (.aload 9, 2) := by decide +kernel
theorem dL_isSo_493 : decode cL_isSo 493 = .ok (.iconst 1, 1) := by decide +kernel
theorem dL_isSo_494 : decode cL_isSo 494 = .ok (.iaload, 1) := by decide +kernel
theorem dL_isSo_495 : decode cL_isSo 495 = .ok (.invokestatic 91, 3) := by decide +kernel
theorem dL_isSo_498 : decode cL_isSo 498 = .ok (.iaload, 1) := by decide +kernel
theorem dL_isSo_499 : decode cL_isSo 499 = .ok (.istore 13, 2) := by decide +kernel
theorem dL_isSo_501 : decode cL_isSo 501 = .ok (.iload 13, 2) := by decide +kernel
theorem dL_isSo_503 : decode cL_isSo 503 = .ok (.iload 12, 2) := by decide +kernel
theorem dL_isSo_505 : decode cL_isSo 505 = .ok (.if_icmp .le 8, 3) := by decide +kernel
theorem dL_isSo_508 : decode cL_isSo 508 = .ok (.iload 12, 2) := by decide +kernel
theorem dL_isSo_510 : decode cL_isSo 510 = .ok (.goto 5, 3) := by decide +kernel
theorem dL_isSo_513 : decode cL_isSo 513 = .ok (.iload 13, 2) := by decide +kernel
theorem dL_isSo_515 : decode cL_isSo 515 = .ok (.istore 13, 2) := by decide +kernel
theorem dL_isSo_517 : decode cL_isSo 517 = .ok (.iload 11, 2) := by decide +kernel
theorem dL_isSo_519 : decode cL_isSo 519 = .ok (.ifCond .eq 61, 3) := by decide +kernel
theorem dL_isSo_522 : decode cL_isSo 522 = .ok (.aload_n 0, 1) := by decide +kernel
theorem dL_isSo_523 : decode cL_isSo 523 = .ok (.invokevirtual 94, 3) := by decide +kernel
theorem dL_isSo_526 : decode cL_isSo 526 = .ok (.iload 10, 2) := by decide +kernel
theorem dL_isSo_528 : decode cL_isSo 528 = .ok (.if_icmp .ne 52, 3) := by decide +kernel
theorem dL_isSo_531 : decode cL_isSo 531 = .ok (.aload_n 0, 1) := by decide +kernel
theorem dL_isSo_532 : decode cL_isSo 532 = .ok (.iload 12, 2) := by decide +kernel
theorem dL_isSo_534 : decode cL_isSo 534 = .ok (.invokevirtual 97, 3) := by decide +kernel
theorem dL_isSo_537 : decode cL_isSo 537 = .ok (.iload 12, 2) := by decide +kernel
theorem dL_isSo_539 : decode cL_isSo 539 = .ok (.aload 4, 2) := by decide +kernel
theorem dL_isSo_541 : decode cL_isSo 541 = .ok (.aload 5, 2) := by decide +kernel
theorem dL_isSo_543 : decode cL_isSo 543 = .ok (.aload 9, 2) := by decide +kernel
theorem dL_isSo_545 : decode cL_isSo 545 = .ok (.invokestatic 101, 3) := by decide +kernel
theorem dL_isSo_548 : decode cL_isSo 548 = .ok (.lcmp, 1) := by decide +kernel
theorem dL_isSo_549 : decode cL_isSo 549 = .ok (.ifCond .ne 31, 3) := by decide +kernel
theorem dL_isSo_552 : decode cL_isSo 552 = .ok (.aload_n 0, 1) := by decide +kernel
theorem dL_isSo_553 : decode cL_isSo 553 = .ok (.iload 12, 2) := by decide +kernel
theorem dL_isSo_555 : decode cL_isSo 555 = .ok (.iload 13, 2) := by decide +kernel
theorem dL_isSo_557 : decode cL_isSo 557 = .ok (.invokevirtual 104, 3) := by decide +kernel
theorem dL_isSo_560 : decode cL_isSo 560 = .ok (.iload 12, 2) := by decide +kernel
theorem dL_isSo_562 : decode cL_isSo 562 = .ok (.iload 13, 2) := by decide +kernel
theorem dL_isSo_564 : decode cL_isSo 564 = .ok (.aload 4, 2) := by decide +kernel
theorem dL_isSo_566 : decode cL_isSo 566 = .ok (.aload 5, 2) := by decide +kernel
theorem dL_isSo_568 : decode cL_isSo 568 = .ok (.aload 9, 2) := by decide +kernel
theorem dL_isSo_570 : decode cL_isSo 570 = .ok (.invokestatic 107, 3) := by decide +kernel
theorem dL_isSo_573 : decode cL_isSo 573 = .ok (.if_icmp .ne 7, 3) := by decide +kernel
theorem dL_isSo_576 : decode cL_isSo 576 = .ok (.iconst 1, 1) := by decide +kernel
theorem dL_isSo_577 : decode cL_isSo 577 = .ok (.goto 4, 3) := by decide +kernel
theorem dL_isSo_580 : decode cL_isSo 580 = .ok (.iconst 0, 1) := by decide +kernel
theorem dL_isSo_581 : decode cL_isSo 581 = .ok (.ireturn, 1) := by decide +kernel
theorem dL_seeds_0 : decode cL_seeds 0 = .ok (.iconst 0, 1) := by decide +kernel
theorem dL_seeds_1 : decode cL_seeds 1 = .ok (.istore_n 3, 1) := by decide +kernel
theorem dL_seeds_2 : decode cL_seeds 2 = .ok (.iconst 0, 1) := by decide +kernel
theorem dL_seeds_3 : decode cL_seeds 3 = .ok (.istore 4, 2) := by decide +kernel
theorem dL_seeds_5 : decode cL_seeds 5 = .ok (.iload 4, 2) := by decide +kernel
theorem dL_seeds_7 : decode cL_seeds 7 = .ok (.sipush 10007, 3) := by decide +kernel
theorem dL_seeds_10 : decode cL_seeds 10 = .ok (.if_icmp .ge 45, 3) := by decide +kernel
theorem dL_seeds_13 : decode cL_seeds 13 = .ok (.iload_n 3, 1) := by decide +kernel
theorem dL_seeds_14 : decode cL_seeds 14 = .ok (.iload 4, 2) := by decide +kernel
theorem dL_seeds_16 : decode cL_seeds 16 = .ok (.invokestatic 81, 3) := by decide +kernel
theorem dL_seeds_19 : decode cL_seeds 19 = .ok (.aload_n 2, 1) := by decide +kernel
theorem dL_seeds_20 : decode cL_seeds 20 = .ok (.iload_n 1, 1) := by decide +kernel
theorem dL_seeds_21 : decode cL_seeds 21 = .ok (.iaload, 1) := by decide +kernel
theorem dL_seeds_22 : decode cL_seeds 22 = .ok (.invokestatic 81, 3) := by decide +kernel
theorem dL_seeds_25 : decode cL_seeds 25 = .ok (.if_icmp .ne 21, 3) := by decide +kernel
theorem dL_seeds_28 : decode cL_seeds 28 = .ok (.iload 4, 2) := by decide +kernel
theorem dL_seeds_30 : decode cL_seeds 30 = .ok (.sipush 5494, 3) := by decide +kernel
theorem dL_seeds_33 : decode cL_seeds 33 = .ok (.if_icmp .ge 8, 3) := by decide +kernel
theorem dL_seeds_36 : decode cL_seeds 36 = .ok (.bipush 7, 2) := by decide +kernel
theorem dL_seeds_38 : decode cL_seeds 38 = .ok (.goto 9, 3) := by decide +kernel
theorem dL_seeds_41 : decode cL_seeds 41 = .ok (.bipush 6, 2) := by decide +kernel
theorem dL_seeds_43 : decode cL_seeds 43 = .ok (.goto 4, 3) := by decide +kernel
theorem dL_seeds_46 : decode cL_seeds 46 = .ok (.iconst 0, 1) := by decide +kernel
theorem dL_seeds_47 : decode cL_seeds 47 = .ok (.iadd, 1) := by decide +kernel
theorem dL_seeds_48 : decode cL_seeds 48 = .ok (.istore_n 3, 1) := by decide +kernel
theorem dL_seeds_49 : decode cL_seeds 49 = .ok (.iinc 4 1, 3) := by decide +kernel
theorem dL_seeds_52 : decode cL_seeds 52 = .ok (.goto (-47), 3) := by decide +kernel
theorem dL_seeds_55 : decode cL_seeds 55 = .ok (.aload_n 0, 1) := by decide +kernel
theorem dL_seeds_56 : decode cL_seeds 56 = .ok (.iload_n 1, 1) := by decide +kernel
theorem dL_seeds_57 : decode cL_seeds 57 = .ok (.invokevirtual 110, 3) := by decide +kernel
theorem dL_seeds_60 : decode cL_seeds 60 = .ok (.iload_n 3, 1) := by decide +kernel
theorem dL_seeds_61 : decode cL_seeds 61 = .ok (.if_icmp .ne 7, 3) := by decide +kernel
theorem dL_seeds_64 : decode cL_seeds 64 = .ok (.iconst 1, 1) := by decide +kernel
theorem dL_seeds_65 : decode cL_seeds 65 = .ok (.goto 4, 3) := by decide +kernel
theorem dL_seeds_68 : decode cL_seeds 68 = .ok (.iconst 0, 1) := by decide +kernel
theorem dL_seeds_69 : decode cL_seeds 69 = .ok (.ireturn, 1) := by decide +kernel
