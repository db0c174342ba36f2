theorem dMd_cell_0 : decode cMd_cell 0 = .ok (.iload_n 1, 1) := by decide +kernel
theorem dMd_cell_1 : decode cMd_cell 1 = .ok (.bipush 6, 2) := by decide +kernel
theorem dMd_cell_3 : decode cMd_cell 3 = .ok (.invokestatic 44, 3) := by decide +kernel
theorem dMd_cell_6 : decode cMd_cell 6 = .ok (.ifCond .eq 26, 3) := by decide +kernel
theorem dMd_cell_9 : decode cMd_cell 9 = .ok (.iload_n 2, 1) := by decide +kernel
theorem dMd_cell_10 : decode cMd_cell 10 = .ok (.bipush 8, 2) := by decide +kernel
theorem dMd_cell_12 : decode cMd_cell 12 = .ok (.invokestatic 44, 3) := by decide +kernel
theorem dMd_cell_15 : decode cMd_cell 15 = .ok (.ifCond .eq 17, 3) := by decide +kernel
theorem dMd_cell_18 : decode cMd_cell 18 = .ok (.aload_n 0, 1) := by decide +kernel
theorem dMd_cell_19 : decode cMd_cell 19 = .ok (.getfield 22, 3) := by decide +kernel
theorem dMd_cell_22 : decode cMd_cell 22 = .ok (.iload_n 1, 1) := by decide +kernel
theorem dMd_cell_23 : decode cMd_cell 23 = .ok (.bipush 8, 2) := by decide +kernel
theorem dMd_cell_25 : decode cMd_cell 25 = .ok (.imul, 1) := by decide +kernel
theorem dMd_cell_26 : decode cMd_cell 26 = .ok (.iload_n 2, 1) := by decide +kernel
theorem dMd_cell_27 : decode cMd_cell 27 = .ok (.iadd, 1) := by decide +kernel
theorem dMd_cell_28 : decode cMd_cell 28 = .ok (.iaload, 1) := by decide +kernel
theorem dMd_cell_29 : decode cMd_cell 29 = .ok (.goto 4, 3) := by decide +kernel
theorem dMd_cell_32 : decode cMd_cell 32 = .ok (.iconst (-1), 1) := by decide +kernel
theorem dMd_cell_33 : decode cMd_cell 33 = .ok (.ireturn, 1) := by decide +kernel
theorem dMd_counter_0 : decode cMd_counter 0 = .ok (.aload_n 0, 1) := by decide +kernel
theorem dMd_counter_1 : decode cMd_counter 1 = .ok (.getfield 108, 3) := by decide +kernel
theorem dMd_counter_4 : decode cMd_counter 4 = .ok (.lreturn, 1) := by decide +kernel
theorem dMd_count_0 : decode cMd_count 0 = .ok (.iload_n 1, 1) := by decide +kernel
theorem dMd_count_1 : decode cMd_count 1 = .ok (.bipush 9, 2) := by decide +kernel
theorem dMd_count_3 : decode cMd_count 3 = .ok (.invokestatic 44, 3) := by decide +kernel
theorem dMd_count_6 : decode cMd_count 6 = .ok (.ifCond .ne 5, 3) := by decide +kernel
theorem dMd_count_9 : decode cMd_count 9 = .ok (.iconst (-1), 1) := by decide +kernel
theorem dMd_count_10 : decode cMd_count 10 = .ok (.ireturn, 1) := by decide +kernel
theorem dMd_count_11 : decode cMd_count 11 = .ok (.iload_n 1, 1) := by decide +kernel
theorem dMd_count_12 : decode cMd_count 12 = .ok (.iconst 2, 1) := by decide +kernel
theorem dMd_count_13 : decode cMd_count 13 = .ok (.if_icmp .le 14, 3) := by decide +kernel
theorem dMd_count_16 : decode cMd_count 16 = .ok (.aload_n 0, 1) := by decide +kernel
theorem dMd_count_17 : decode cMd_count 17 = .ok (.getfield 16, 3) := by decide +kernel
theorem dMd_count_20 : decode cMd_count 20 = .ok (.iload_n 1, 1) := by decide +kernel
theorem dMd_count_21 : decode cMd_count 21 = .ok (.iconst 3, 1) := by decide +kernel
theorem dMd_count_22 : decode cMd_count 22 = .ok (.isub, 1) := by decide +kernel
theorem dMd_count_23 : decode cMd_count 23 = .ok (.iaload, 1) := by decide +kernel
theorem dMd_count_24 : decode cMd_count 24 = .ok (.goto 30, 3) := by decide +kernel
theorem dMd_count_27 : decode cMd_count 27 = .ok (.iload_n 1, 1) := by decide +kernel
theorem dMd_count_28 : decode cMd_count 28 = .ok (.ifCond .ne 10, 3) := by decide +kernel
theorem dMd_count_31 : decode cMd_count 31 = .ok (.aload_n 0, 1) := by decide +kernel
theorem dMd_count_32 : decode cMd_count 32 = .ok (.getfield 130, 3) := by decide +kernel
theorem dMd_count_35 : decode cMd_count 35 = .ok (.goto 19, 3) := by decide +kernel
theorem dMd_count_38 : decode cMd_count 38 = .ok (.iload_n 1, 1) := by decide +kernel
theorem dMd_count_39 : decode cMd_count 39 = .ok (.iconst 1, 1) := by decide +kernel
theorem dMd_count_40 : decode cMd_count 40 = .ok (.if_icmp .ne 10, 3) := by decide +kernel
theorem dMd_count_43 : decode cMd_count 43 = .ok (.aload_n 0, 1) := by decide +kernel
theorem dMd_count_44 : decode cMd_count 44 = .ok (.getfield 133, 3) := by decide +kernel
theorem dMd_count_47 : decode cMd_count 47 = .ok (.goto 7, 3) := by decide +kernel
theorem dMd_count_50 : decode cMd_count 50 = .ok (.aload_n 0, 1) := by decide +kernel
theorem dMd_count_51 : decode cMd_count 51 = .ok (.getfield 136, 3) := by decide +kernel
theorem dMd_count_54 : decode cMd_count 54 = .ok (.ireturn, 1) := by decide +kernel
abbrev cLw_law : ByteArray := code
theorem dLw_law_0 : decode cLw_law 0 = .ok (.new 7, 3) := by decide +kernel
theorem dLw_law_3 : decode cLw_law 3 = .ok (.dup, 1) := by decide +kernel
theorem dLw_law_4 : decode cLw_law 4 = .ok (.invokespecial 9, 3) := by decide +kernel
theorem dLw_law_7 : decode cLw_law 7 = .ok (.astore_n 1, 1) := by decide +kernel
theorem dLw_law_8 : decode cLw_law 8 = .ok (.new 10, 3) := by decide +kernel
theorem dLw_law_11 : decode cLw_law 11 = .ok (.dup, 1) := by decide +kernel
theorem dLw_law_12 : decode cLw_law 12 = .ok (.invokespecial 12, 3) := by decide +kernel
theorem dLw_law_15 : decode cLw_law 15 = .ok (.astore_n 2, 1) := by decide +kernel
theorem dLw_law_16 : decode cLw_law 16 = .ok (.iconst 0, 1) := by decide +kernel
theorem dLw_law_17 : decode cLw_law 17 = .ok (.istore_n 3, 1) := by decide +kernel
theorem dLw_law_18 : decode cLw_law 18 = .ok (.iload_n 3, 1) := by decide +kernel
theorem dLw_law_19 : decode cLw_law 19 = .ok (.aload_n 0, 1) := by decide +kernel
theorem dLw_law_20 : decode cLw_law 20 = .ok (.arraylength, 1) := by decide +kernel
theorem dLw_law_21 : decode cLw_law 21 = .ok (.iconst 4, 1) := by decide +kernel
theorem dLw_law_22 : decode cLw_law 22 = .ok (.isub, 1) := by decide +kernel
theorem dLw_law_23 : decode cLw_law 23 = .ok (.if_icmp .gt 304, 3) := by decide +kernel
theorem dLw_law_26 : decode cLw_law 26 = .ok (.aload_n 0, 1) := by decide +kernel
theorem dLw_law_27 : decode cLw_law 27 = .ok (.iload_n 3, 1) := by decide +kernel
theorem dLw_law_28 : decode cLw_law 28 = .ok (.iaload, 1) := by decide +kernel
theorem dLw_law_29 : decode cLw_law 29 = .ok (.bipush 7, 2) := by decide +kernel
theorem dLw_law_31 : decode cLw_law 31 = .ok (.iand, 1) := by decide +kernel
theorem dLw_law_32 : decode cLw_law 32 = .ok (.tableswitch 289 0 7 #[48, 91, 114, 163, 186, 219, 252, 266], 48) := by decide +kernel
theorem dLw_law_80 : decode cLw_law 80 = .ok (.aload_n 1, 1) := by decide +kernel
theorem dLw_law_81 : decode cLw_law 81 = .ok (.aload_n 0, 1) := by decide +kernel
theorem dLw_law_82 : decode cLw_law 82 = .ok (.iload_n 3, 1) := by decide +kernel
theorem dLw_law_83 : decode cLw_law 83 = .ok (.iconst 1, 1) := by decide +kernel
theorem dLw_law_84 : decode cLw_law 84 = .ok (.iadd, 1) := by decide +kernel
theorem dLw_law_85 : decode cLw_law 85 = .ok (.iaload, 1) := by decide +kernel
theorem dLw_law_86 : decode cLw_law 86 = .ok (.aload_n 0, 1) := by decide +kernel
theorem dLw_law_87 : decode cLw_law 87 = .ok (.iload_n 3, 1) := by decide +kernel
theorem dLw_law_88 : decode cLw_law 88 = .ok (.iconst 2, 1) := by decide +kernel
theorem dLw_law_89 : decode cLw_law 89 = .ok (.iadd, 1) := by decide +kernel
theorem dLw_law_90 : decode cLw_law 90 = .ok (.iaload, 1) := by decide +kernel
theorem dLw_law_91 : decode cLw_law 91 = .ok (.aload_n 0, 1) := by decide +kernel
theorem dLw_law_92 : decode cLw_law 92 = .ok (.iload_n 3, 1) := by decide +kernel
theorem dLw_law_93 : decode cLw_law 93 = .ok (.iconst 3, 1) := by decide +kernel
theorem dLw_law_94 : decode cLw_law 94 = .ok (.iadd, 1) := by decide +kernel
theorem dLw_law_95 : decode cLw_law 95 = .ok (.iaload, 1) := by decide +kernel
theorem dLw_law_96 : decode cLw_law 96 = .ok (.invokevirtual 13, 3) := by decide +kernel
theorem dLw_law_99 : decode cLw_law 99 = .ok (.aload_n 2, 1) := by decide +kernel
theorem dLw_law_100 : decode cLw_law 100 = .ok (.aload_n 0, 1) := by decide +kernel
theorem dLw_law_101 : decode cLw_law 101 = .ok (.iload_n 3, 1) := by decide +kernel
theorem dLw_law_102 : decode cLw_law 102 = .ok (.iconst 1, 1) := by decide +kernel
theorem dLw_law_103 : decode cLw_law 103 = .ok (.iadd, 1) := by decide +kernel
theorem dLw_law_104 : decode cLw_law 104 = .ok (.iaload, 1) := by decide +kernel
theorem dLw_law_105 : decode cLw_law 105 = .ok (.aload_n 0, 1) := by decide +kernel
theorem dLw_law_106 : decode cLw_law 106 = .ok (.iload_n 3, 1) := by decide +kernel
theorem dLw_law_107 : decode cLw_law 107 = .ok (.iconst 2, 1) := by decide +kernel
theorem dLw_law_108 : decode cLw_law 108 = .ok (.iadd, 1) := by decide +kernel
theorem dLw_law_109 : decode cLw_law 109 = .ok (.iaload, 1) := by decide +kernel
theorem dLw_law_110 : decode cLw_law 110 = .ok (.aload_n 0, 1) := by decide +kernel
theorem dLw_law_111 : decode cLw_law 111 = .ok (.iload_n 3, 1) := by decide +kernel
theorem dLw_law_112 : decode cLw_law 112 = .ok (.iconst 3, 1) := by decide +kernel
theorem dLw_law_113 : decode cLw_law 113 = .ok (.iadd, 1) := by decide +kernel
theorem dLw_law_114 : decode cLw_law 114 = .ok (.iaload, 1) := by decide +kernel
theorem dLw_law_115 : decode cLw_law 115 = .ok (.invokevirtual 17, 3) := by decide +kernel
theorem dLw_law_118 : decode cLw_law 118 = .ok (.if_icmp .eq 203, 3) := by decide +kernel
theorem dLw_law_121 : decode cLw_law 121 = .ok (.iconst 0, 1) := by decide +kernel
theorem dLw_law_122 : decode cLw_law 122 = .ok (.ireturn, 1) := by decide +kernel
theorem dLw_law_123 : decode cLw_law 123 = .ok (.aload_n 1, 1) := by decide +kernel
theorem dLw_law_124 : decode cLw_law 124 = .ok (.aload_n 0, 1) := by decide +kernel
theorem dLw_law_125 : decode cLw_law 125 = .ok (.iload_n 3, 1) := by decide +kernel
theorem dLw_law_126 : decode cLw_law 126 = .ok (.iconst 1, 1) := by decide +kernel
theorem dLw_law_127 : decode cLw_law 127 = .ok (.iadd, 1) := by decide +kernel
theorem dLw_law_128 : decode cLw_law 128 = .ok (.iaload, 1) := by decide +kernel
theorem dLw_law_129 : decode cLw_law 129 = .ok (.invokevirtual 18, 3) := by decide +kernel
theorem dLw_law_132 : decode cLw_law 132 = .ok (.aload_n 2, 1) := by decide +kernel
theorem dLw_law_133 : decode cLw_law 133 = .ok (.aload_n 0, 1) := by decide +kernel
theorem dLw_law_134 : decode cLw_law 134 = .ok (.iload_n 3, 1) := by decide +kernel
theorem dLw_law_135 : decode cLw_law 135 = .ok (.iconst 1, 1) := by decide +kernel
theorem dLw_law_136 : decode cLw_law 136 = .ok (.iadd, 1) := by decide +kernel
theorem dLw_law_137 : decode cLw_law 137 = .ok (.iaload, 1) := by decide +kernel
theorem dLw_law_138 : decode cLw_law 138 = .ok (.invokevirtual 22, 3) := by decide +kernel
theorem dLw_law_141 : decode cLw_law 141 = .ok (.if_icmp .eq 180, 3) := by decide +kernel
theorem dLw_law_144 : decode cLw_law 144 = .ok (.iconst 0, 1) := by decide +kernel
theorem dLw_law_145 : decode cLw_law 145 = .ok (.ireturn, 1) := by decide +kernel
theorem dLw_law_146 : decode cLw_law 146 = .ok (.aload_n 1, 1) := by decide +kernel
theorem dLw_law_147 : decode cLw_law 147 = .ok (.aload_n 0, 1) := by decide +kernel
theorem dLw_law_148 : decode cLw_law 148 = .ok (.iload_n 3, 1) := by decide +kernel
theorem dLw_law_149 : decode cLw_law 149 = .ok (.iconst 1, 1) := by decide +kernel
theorem dLw_law_150 : decode cLw_law 150 = .ok (.iadd, 1) := by decide +kernel
theorem dLw_law_151 : decode cLw_law 151 = .ok (.iaload, 1) := by decide +kernel
theorem dLw_law_152 : decode cLw_law 152 = .ok (.aload_n 0, 1) := by decide +kernel
theorem dLw_law_153 : decode cLw_law 153 = .ok (.iload_n 3, 1) := by decide +kernel
theorem dLw_law_154 : decode cLw_law 154 = .ok (.iconst 2, 1) := by decide +kernel
theorem dLw_law_155 : decode cLw_law 155 = .ok (.iadd, 1) := by decide +kernel
theorem dLw_law_156 : decode cLw_law 156 = .ok (.iaload, 1) := by decide +kernel
theorem dLw_law_157 : decode cLw_law 157 = .ok (.ifCond .eq 7, 3) := by decide +kernel
theorem dLw_law_160 : decode cLw_law 160 = .ok (.iconst 1, 1) := by decide +kernel
theorem dLw_law_161 : decode cLw_law 161 = .ok (.goto 4, 3) := by decide +kernel
theorem dLw_law_164 : decode cLw_law 164 = .ok (.iconst 0, 1) := by decide +kernel
theorem dLw_law_165 : decode cLw_law 165 = .ok (.invokevirtual 23, 3) := by decide +kernel
theorem dLw_law_168 : decode cLw_law 168 = .ok (.aload_n 2, 1) := by decide +kernel
theorem dLw_law_169 : decode cLw_law 169 = .ok (.aload_n 0, 1) := by decide +kernel
theorem dLw_law_170 : decode cLw_law 170 = .ok (.iload_n 3, 1) := by decide +kernel
theorem dLw_law_171 : decode cLw_law 171 = .ok (.iconst 1, 1) := by decide +kernel
theorem dLw_law_172 : decode cLw_law 172 = .ok (.iadd, 1) := by decide +kernel
theorem dLw_law_173 : decode cLw_law 173 = .ok (.iaload, 1) := by decide +kernel
theorem dLw_law_174 : decode cLw_law 174 = .ok (.aload_n 0, 1) := by decide +kernel
theorem dLw_law_175 : decode cLw_law 175 = .ok (.iload_n 3, 1) := by decide +kernel
theorem dLw_law_176 : decode cLw_law 176 = .ok (.iconst 2, 1) := by decide +kernel
theorem dLw_law_177 : decode cLw_law 177 = .ok (.iadd, 1) := by decide +kernel
theorem dLw_law_178 : decode cLw_law 178 = .ok (.iaload, 1) := by decide +kernel
theorem dLw_law_179 : decode cLw_law 179 = .ok (.ifCond .eq 7, 3) := by decide +kernel
theorem dLw_law_182 : decode cLw_law 182 = .ok (.iconst 1, 1) := by decide +kernel
theorem dLw_law_183 : decode cLw_law 183 = .ok (.goto 4, 3) := by decide +kernel
theorem dLw_law_186 : decode cLw_law 186 = .ok (.iconst 0, 1) := by decide +kernel
theorem dLw_law_187 : decode cLw_law 187 = .ok (.invokevirtual 27, 3) := by decide +kernel
theorem dLw_law_190 : decode cLw_law 190 = .ok (.if_icmp .eq 131, 3) := by decide +kernel
theorem dLw_law_193 : decode cLw_law 193 = .ok (.iconst 0, 1) := by decide +kernel
theorem dLw_law_194 : decode cLw_law 194 = .ok (.ireturn, 1) := by decide +kernel
theorem dLw_law_195 : decode cLw_law 195 = .ok (.aload_n 1, 1) := by decide +kernel
theorem dLw_law_196 : decode cLw_law 196 = .ok (.aload_n 0, 1) := by decide +kernel
theorem dLw_law_197 : decode cLw_law 197 = .ok (.iload_n 3, 1) := by decide +kernel
theorem dLw_law_198 : decode cLw_law 198 = .ok (.iconst 1, 1) := by decide +kernel
theorem dLw_law_199 : decode cLw_law 199 = .ok (.iadd, 1) := by decide +kernel
theorem dLw_law_200 : decode cLw_law 200 = .ok (.iaload, 1) := by decide +kernel
theorem dLw_law_201 : decode cLw_law 201 = .ok (.invokevirtual 28, 3) := by decide +kernel
theorem dLw_law_204 : decode cLw_law 204 = .ok (.aload_n 2, 1) := by decide +kernel
theorem dLw_law_205 : decode cLw_law 205 = .ok (.aload_n 0, 1) := by decide +kernel
theorem dLw_law_206 : decode cLw_law 206 = .ok (.iload_n 3, 1) := by decide +kernel
theorem dLw_law_207 : decode cLw_law 207 = .ok (.iconst 1, 1) := by decide +kernel
theorem dLw_law_208 : decode cLw_law 208 = .ok (.iadd, 1) := by decide +kernel
theorem dLw_law_209 : decode cLw_law 209 = .ok (.iaload, 1) := by decide +kernel
theorem dLw_law_210 : decode cLw_law 210 = .ok (.invokevirtual 31, 3) := by decide +kernel
theorem dLw_law_213 : decode cLw_law 213 = .ok (.if_icmp .eq 108, 3) := by decide +kernel
theorem dLw_law_216 : decode cLw_law 216 = .ok (.iconst 0, 1) := by decide +kernel
theorem dLw_law_217 : decode cLw_law 217 = .ok (.ireturn, 1) := by decide +kernel
theorem dLw_law_218 : decode cLw_law 218 = .ok (.aload_n 1, 1) := by decide +kernel
theorem dLw_law_219 : decode cLw_law 219 = .ok (.aload_n 0, 1) := by decide +kernel
theorem dLw_law_220 : decode cLw_law 220 = .ok (.iload_n 3, 1) := by decide +kernel
theorem dLw_law_221 : decode cLw_law 221 = .ok (.iconst 1, 1) := by decide +kernel
theorem dLw_law_222 : decode cLw_law 222 = .ok (.iadd, 1) := by decide +kernel
theorem dLw_law_223 : decode cLw_law 223 = .ok (.iaload, 1) := by decide +kernel
theorem dLw_law_224 : decode cLw_law 224 = .ok (.aload_n 0, 1) := by decide +kernel
theorem dLw_law_225 : decode cLw_law 225 = .ok (.iload_n 3, 1) := by decide +kernel
theorem dLw_law_226 : decode cLw_law 226 = .ok (.iconst 2, 1) := by decide +kernel
theorem dLw_law_227 : decode cLw_law 227 = .ok (.iadd, 1) := by decide +kernel
theorem dLw_law_228 : decode cLw_law 228 = .ok (.iaload, 1) := by decide +kernel
theorem dLw_law_229 : decode cLw_law 229 = .ok (.invokevirtual 32, 3) := by decide +kernel
theorem dLw_law_232 : decode cLw_law 232 = .ok (.aload_n 2, 1) := by decide +kernel
theorem dLw_law_233 : decode cLw_law 233 = .ok (.aload_n 0, 1) := by decide +kernel
theorem dLw_law_234 : decode cLw_law 234 = .ok (.iload_n 3, 1) := by decide +kernel
theorem dLw_law_235 : decode cLw_law 235 = .ok (.iconst 1, 1) := by decide +kernel
theorem dLw_law_236 : decode cLw_law 236 = .ok (.iadd, 1) := by decide +kernel
theorem dLw_law_237 : decode cLw_law 237 = .ok (.iaload, 1) := by decide +kernel
theorem dLw_law_238 : decode cLw_law 238 = .ok (.aload_n 0, 1) := by decide +kernel
theorem dLw_law_239 : decode cLw_law 239 = .ok (.iload_n 3, 1) := by decide +kernel
theorem dLw_law_240 : decode cLw_law 240 = .ok (.iconst 2, 1) := by decide +kernel
theorem dLw_law_241 : decode cLw_law 241 = .ok (.iadd, 1) := by decide +kernel
theorem dLw_law_242 : decode cLw_law 242 = .ok (.iaload, 1) := by decide +kernel
theorem dLw_law_243 : decode cLw_law 243 = .ok (.invokevirtual 36, 3) := by decide +kernel
theorem dLw_law_246 : decode cLw_law 246 = .ok (.if_icmp .eq 75, 3) := by decide +kernel
theorem dLw_law_249 : decode cLw_law 249 = .ok (.iconst 0, 1) := by decide +kernel
theorem dLw_law_250 : decode cLw_law 250 = .ok (.ireturn, 1) := by decide +kernel
theorem dLw_law_251 : decode cLw_law 251 = .ok (.aload_n 1, 1) := by decide +kernel
theorem dLw_law_252 : decode cLw_law 252 = .ok (.aload_n 0, 1) := by decide +kernel
theorem dLw_law_253 : decode cLw_law 253 = .ok (.iload_n 3, 1) := by decide +kernel
theorem dLw_law_254 : decode cLw_law 254 = .ok (.iconst 1, 1) := by decide +kernel
theorem dLw_law_255 : decode cLw_law 255 = .ok (.iadd, 1) := by decide +kernel
theorem dLw_law_256 : decode cLw_law 256 = .ok (.iaload, 1) := by decide +kernel
theorem dLw_law_257 : decode cLw_law 257 = .ok (.aload_n 0, 1) := by decide +kernel
theorem dLw_law_258 : decode cLw_law 258 = .ok (.iload_n 3, 1) := by decide +kernel
theorem dLw_law_259 : decode cLw_law 259 = .ok (.iconst 2, 1) := by decide +kernel
theorem dLw_law_260 : decode cLw_law 260 = .ok (.iadd, 1) := by decide +kernel
theorem dLw_law_261 : decode cLw_law 261 = .ok (.iaload, 1) := by decide +kernel
theorem dLw_law_262 : decode cLw_law 262 = .ok (.invokevirtual 37, 3) := by decide +kernel
theorem dLw_law_265 : decode cLw_law 265 = .ok (.aload_n 2, 1) := by decide +kernel
theorem dLw_law_266 : decode cLw_law 266 = .ok (.aload_n 0, 1) := by decide +kernel
theorem dLw_law_267 : decode cLw_law 267 = .ok (.iload_n 3, 1) := by decide +kernel
theorem dLw_law_268 : decode cLw_law 268 = .ok (.iconst 1, 1) := by decide +kernel
theorem dLw_law_269 : decode cLw_law 269 = .ok (.iadd, 1) := by decide +kernel
theorem dLw_law_270 : decode cLw_law 270 = .ok (.iaload, 1) := by decide +kernel
theorem dLw_law_271 : decode cLw_law 271 = .ok (.aload_n 0, 1) := by decide +kernel
theorem dLw_law_272 : decode cLw_law 272 = .ok (.iload_n 3, 1) := by decide +kernel
theorem dLw_law_273 : decode cLw_law 273 = .ok (.iconst 2, 1) := by decide +kernel
theorem dLw_law_274 : decode cLw_law 274 = .ok (.iadd, 1) := by decide +kernel
theorem dLw_law_275 : decode cLw_law 275 = .ok (.iaload, 1) := by decide +kernel
theorem dLw_law_276 : decode cLw_law 276 = .ok (.invokevirtual 40, 3) := by decide +kernel
theorem dLw_law_279 : decode cLw_law 279 = .ok (.if_icmp .eq 42, 3) := by decide +kernel
theorem dLw_law_282 : decode cLw_law 282 = .ok (.iconst 0, 1) := by decide +kernel
theorem dLw_law_283 : decode cLw_law 283 = .ok (.ireturn, 1) := by decide +kernel
theorem dLw_law_284 : decode cLw_law 284 = .ok (.aload_n 1, 1) := by decide +kernel
theorem dLw_law_285 : decode cLw_law 285 = .ok (.invokevirtual 41, 3) := by decide +kernel
theorem dLw_law_288 : decode cLw_law 288 = .ok (.aload_n 2, 1) := by decide +kernel
theorem dLw_law_289 : decode cLw_law 289 = .ok (.invokevirtual 45, 3) := by decide +kernel
theorem dLw_law_292 : decode cLw_law 292 = .ok (.lcmp, 1) := by decide +kernel
theorem dLw_law_293 : decode cLw_law 293 = .ok (.ifCond .eq 28, 3) := by decide +kernel
theorem dLw_law_296 : decode cLw_law 296 = .ok (.iconst 0, 1) := by decide +kernel
theorem dLw_law_297 : decode cLw_law 297 = .ok (.ireturn, 1) := by decide +kernel
theorem dLw_law_298 : decode cLw_law 298 = .ok (.aload_n 1, 1) := by decide +kernel
theorem dLw_law_299 : decode cLw_law 299 = .ok (.aload_n 0, 1) := by decide +kernel
theorem dLw_law_300 : decode cLw_law 300 = .ok (.iload_n 3, 1) := by decide +kernel
theorem dLw_law_301 : decode cLw_law 301 = .ok (.iconst 1, 1) := by decide +kernel
theorem dLw_law_302 : decode cLw_law 302 = .ok (.iadd, 1) := by decide +kernel
theorem dLw_law_303 : decode cLw_law 303 = .ok (.iaload, 1) := by decide +kernel
theorem dLw_law_304 : decode cLw_law 304 = .ok (.invokevirtual 46, 3) := by decide +kernel
theorem dLw_law_307 : decode cLw_law 307 = .ok (.aload_n 2, 1) := by decide +kernel
theorem dLw_law_308 : decode cLw_law 308 = .ok (.aload_n 0, 1) := by decide +kernel
theorem dLw_law_309 : decode cLw_law 309 = .ok (.iload_n 3, 1) := by decide +kernel
theorem dLw_law_310 : decode cLw_law 310 = .ok (.iconst 1, 1) := by decide +kernel
theorem dLw_law_311 : decode cLw_law 311 = .ok (.iadd, 1) := by decide +kernel
theorem dLw_law_312 : decode cLw_law 312 = .ok (.iaload, 1) := by decide +kernel
theorem dLw_law_313 : decode cLw_law 313 = .ok (.invokevirtual 49, 3) := by decide +kernel
theorem dLw_law_316 : decode cLw_law 316 = .ok (.if_icmp .eq 5, 3) := by decide +kernel
theorem dLw_law_319 : decode cLw_law 319 = .ok (.iconst 0, 1) := by decide +kernel
theorem dLw_law_320 : decode cLw_law 320 = .ok (.ireturn, 1) := by decide +kernel
theorem dLw_law_321 : decode cLw_law 321 = .ok (.iinc 3 4, 3) := by decide +kernel
theorem dLw_law_324 : decode cLw_law 324 = .ok (.goto (-306), 3) := by decide +kernel
theorem dLw_law_327 : decode cLw_law 327 = .ok (.iconst 1, 1) := by decide +kernel
theorem dLw_law_328 : decode cLw_law 328 = .ok (.ireturn, 1) := by decide +kernel
