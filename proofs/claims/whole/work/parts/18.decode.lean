/-! decode rows: printed by wip/gen/names.py -/
theorem d_Model_count_61 : decode prog_9_method_38_code 61 = .ok (.aload_n 0, 1) := by decide +kernel
theorem d_Model_count_62 : decode prog_9_method_38_code 62 = .ok (.getfield 169, 3) := by decide +kernel
theorem d_Model_count_65 : decode prog_9_method_38_code 65 = .ok (.ireturn, 1) := by decide +kernel
theorem d_Model_count_66 : decode prog_9_method_38_code 66 = .ok (.iconst 0, 1) := by decide +kernel
theorem d_Model_count_67 : decode prog_9_method_38_code 67 = .ok (.istore_n 2, 1) := by decide +kernel
theorem d_Model_count_68 : decode prog_9_method_38_code 68 = .ok (.iconst 1, 1) := by decide +kernel
theorem d_Model_count_69 : decode prog_9_method_38_code 69 = .ok (.istore_n 3, 1) := by decide +kernel
theorem d_Model_count_70 : decode prog_9_method_38_code 70 = .ok (.iload_n 3, 1) := by decide +kernel
theorem d_Model_count_71 : decode prog_9_method_38_code 71 = .ok (.aload_n 0, 1) := by decide +kernel
theorem d_Model_count_72 : decode prog_9_method_38_code 72 = .ok (.getfield 118, 3) := by decide +kernel
theorem d_Model_count_75 : decode prog_9_method_38_code 75 = .ok (.if_icmp .gt 75, 3) := by decide +kernel
theorem d_Model_count_78 : decode prog_9_method_38_code 78 = .ok (.iload_n 2, 1) := by decide +kernel
theorem d_Model_count_79 : decode prog_9_method_38_code 79 = .ok (.iload_n 1, 1) := by decide +kernel
theorem d_Model_count_80 : decode prog_9_method_38_code 80 = .ok (.iconst 3, 1) := by decide +kernel
theorem d_Model_count_81 : decode prog_9_method_38_code 81 = .ok (.if_icmp .ne 21, 3) := by decide +kernel
theorem d_Model_count_84 : decode prog_9_method_38_code 84 = .ok (.aload_n 0, 1) := by decide +kernel
theorem d_Model_count_85 : decode prog_9_method_38_code 85 = .ok (.getfield 47, 3) := by decide +kernel
theorem d_Model_count_88 : decode prog_9_method_38_code 88 = .ok (.iload_n 3, 1) := by decide +kernel
theorem d_Model_count_89 : decode prog_9_method_38_code 89 = .ok (.iaload, 1) := by decide +kernel
theorem d_Model_count_90 : decode prog_9_method_38_code 90 = .ok (.iconst (-1), 1) := by decide +kernel
theorem d_Model_count_91 : decode prog_9_method_38_code 91 = .ok (.if_icmp .ne 7, 3) := by decide +kernel
theorem d_Model_count_94 : decode prog_9_method_38_code 94 = .ok (.iconst 1, 1) := by decide +kernel
theorem d_Model_count_95 : decode prog_9_method_38_code 95 = .ok (.goto 47, 3) := by decide +kernel
theorem d_Model_count_98 : decode prog_9_method_38_code 98 = .ok (.iconst 0, 1) := by decide +kernel
theorem d_Model_count_99 : decode prog_9_method_38_code 99 = .ok (.goto 43, 3) := by decide +kernel
theorem d_Model_count_102 : decode prog_9_method_38_code 102 = .ok (.iload_n 1, 1) := by decide +kernel
theorem d_Model_count_103 : decode prog_9_method_38_code 103 = .ok (.bipush 7, 2) := by decide +kernel
theorem d_Model_count_105 : decode prog_9_method_38_code 105 = .ok (.if_icmp .ne 36, 3) := by decide +kernel
theorem d_Model_count_108 : decode prog_9_method_38_code 108 = .ok (.aload_n 0, 1) := by decide +kernel
theorem d_Model_count_109 : decode prog_9_method_38_code 109 = .ok (.getfield 47, 3) := by decide +kernel
theorem d_Model_count_112 : decode prog_9_method_38_code 112 = .ok (.iload_n 3, 1) := by decide +kernel
theorem d_Model_count_113 : decode prog_9_method_38_code 113 = .ok (.iaload, 1) := by decide +kernel
theorem d_Model_count_114 : decode prog_9_method_38_code 114 = .ok (.iconst (-1), 1) := by decide +kernel
theorem d_Model_count_115 : decode prog_9_method_38_code 115 = .ok (.if_icmp .ne 10, 3) := by decide +kernel
theorem d_Model_count_118 : decode prog_9_method_38_code 118 = .ok (.aload_n 0, 1) := by decide +kernel
theorem d_Model_count_119 : decode prog_9_method_38_code 119 = .ok (.getfield 138, 3) := by decide +kernel
theorem d_Model_count_122 : decode prog_9_method_38_code 122 = .ok (.goto 9, 3) := by decide +kernel
theorem d_Model_count_125 : decode prog_9_method_38_code 125 = .ok (.aload_n 0, 1) := by decide +kernel
theorem d_Model_count_126 : decode prog_9_method_38_code 126 = .ok (.getfield 47, 3) := by decide +kernel
theorem d_Model_count_129 : decode prog_9_method_38_code 129 = .ok (.iload_n 3, 1) := by decide +kernel
theorem d_Model_count_130 : decode prog_9_method_38_code 130 = .ok (.iaload, 1) := by decide +kernel
theorem d_Model_count_131 : decode prog_9_method_38_code 131 = .ok (.aload_n 0, 1) := by decide +kernel
theorem d_Model_count_132 : decode prog_9_method_38_code 132 = .ok (.getfield 44, 3) := by decide +kernel
theorem d_Model_count_135 : decode prog_9_method_38_code 135 = .ok (.iload_n 3, 1) := by decide +kernel
theorem d_Model_count_136 : decode prog_9_method_38_code 136 = .ok (.iaload, 1) := by decide +kernel
theorem d_Model_count_137 : decode prog_9_method_38_code 137 = .ok (.isub, 1) := by decide +kernel
theorem d_Model_count_138 : decode prog_9_method_38_code 138 = .ok (.goto 4, 3) := by decide +kernel
theorem d_Model_count_141 : decode prog_9_method_38_code 141 = .ok (.iconst 0, 1) := by decide +kernel
theorem d_Model_count_142 : decode prog_9_method_38_code 142 = .ok (.iadd, 1) := by decide +kernel
theorem d_Model_count_143 : decode prog_9_method_38_code 143 = .ok (.istore_n 2, 1) := by decide +kernel
theorem d_Model_count_144 : decode prog_9_method_38_code 144 = .ok (.iinc 3 1, 3) := by decide +kernel
theorem d_Model_count_147 : decode prog_9_method_38_code 147 = .ok (.goto (-77), 3) := by decide +kernel
theorem d_Model_count_150 : decode prog_9_method_38_code 150 = .ok (.iconst 0, 1) := by decide +kernel
theorem d_Model_count_151 : decode prog_9_method_38_code 151 = .ok (.istore_n 3, 1) := by decide +kernel
theorem d_Model_count_152 : decode prog_9_method_38_code 152 = .ok (.iload_n 3, 1) := by decide +kernel
theorem d_Model_count_153 : decode prog_9_method_38_code 153 = .ok (.aload_n 0, 1) := by decide +kernel
theorem d_Model_count_154 : decode prog_9_method_38_code 154 = .ok (.getfield 121, 3) := by decide +kernel
theorem d_Model_count_157 : decode prog_9_method_38_code 157 = .ok (.if_icmp .ge 32, 3) := by decide +kernel
theorem d_Model_count_160 : decode prog_9_method_38_code 160 = .ok (.iload_n 2, 1) := by decide +kernel
theorem d_Model_count_161 : decode prog_9_method_38_code 161 = .ok (.iload_n 1, 1) := by decide +kernel
theorem d_Model_count_162 : decode prog_9_method_38_code 162 = .ok (.iconst 5, 1) := by decide +kernel
theorem d_Model_count_163 : decode prog_9_method_38_code 163 = .ok (.if_icmp .ne 17, 3) := by decide +kernel
theorem d_Model_count_166 : decode prog_9_method_38_code 166 = .ok (.aload_n 0, 1) := by decide +kernel
theorem d_Model_count_167 : decode prog_9_method_38_code 167 = .ok (.getfield 83, 3) := by decide +kernel
theorem d_Model_count_170 : decode prog_9_method_38_code 170 = .ok (.iload_n 3, 1) := by decide +kernel
theorem d_Model_count_171 : decode prog_9_method_38_code 171 = .ok (.iaload, 1) := by decide +kernel
theorem d_Model_count_172 : decode prog_9_method_38_code 172 = .ok (.iconst (-1), 1) := by decide +kernel
theorem d_Model_count_173 : decode prog_9_method_38_code 173 = .ok (.if_icmp .ne 7, 3) := by decide +kernel
theorem d_Model_count_176 : decode prog_9_method_38_code 176 = .ok (.iconst 1, 1) := by decide +kernel
theorem d_Model_count_177 : decode prog_9_method_38_code 177 = .ok (.goto 4, 3) := by decide +kernel
theorem d_Model_count_180 : decode prog_9_method_38_code 180 = .ok (.iconst 0, 1) := by decide +kernel
theorem d_Model_count_181 : decode prog_9_method_38_code 181 = .ok (.iadd, 1) := by decide +kernel
theorem d_Model_count_182 : decode prog_9_method_38_code 182 = .ok (.istore_n 2, 1) := by decide +kernel
theorem d_Model_count_183 : decode prog_9_method_38_code 183 = .ok (.iinc 3 1, 3) := by decide +kernel
theorem d_Model_count_186 : decode prog_9_method_38_code 186 = .ok (.goto (-34), 3) := by decide +kernel
theorem d_Model_count_189 : decode prog_9_method_38_code 189 = .ok (.iload_n 1, 1) := by decide +kernel
theorem d_Model_count_190 : decode prog_9_method_38_code 190 = .ok (.iconst 3, 1) := by decide +kernel
theorem d_Model_count_191 : decode prog_9_method_38_code 191 = .ok (.if_icmp .eq 14, 3) := by decide +kernel
theorem d_Model_count_194 : decode prog_9_method_38_code 194 = .ok (.iload_n 1, 1) := by decide +kernel
theorem d_Model_count_195 : decode prog_9_method_38_code 195 = .ok (.iconst 5, 1) := by decide +kernel
theorem d_Model_count_196 : decode prog_9_method_38_code 196 = .ok (.if_icmp .eq 9, 3) := by decide +kernel
theorem d_Model_count_199 : decode prog_9_method_38_code 199 = .ok (.iload_n 1, 1) := by decide +kernel
theorem d_Model_count_200 : decode prog_9_method_38_code 200 = .ok (.bipush 7, 2) := by decide +kernel
theorem d_Model_count_202 : decode prog_9_method_38_code 202 = .ok (.if_icmp .ne 7, 3) := by decide +kernel
theorem d_Model_count_205 : decode prog_9_method_38_code 205 = .ok (.iload_n 2, 1) := by decide +kernel
theorem d_Model_count_206 : decode prog_9_method_38_code 206 = .ok (.goto 4, 3) := by decide +kernel
theorem d_Model_count_209 : decode prog_9_method_38_code 209 = .ok (.iconst (-1), 1) := by decide +kernel
theorem d_Model_count_210 : decode prog_9_method_38_code 210 = .ok (.ireturn, 1) := by decide +kernel
theorem d_Law_law_0 : decode code 0 = .ok (.new 8, 3) := by decide +kernel
theorem d_Law_law_3 : decode code 3 = .ok (.dup, 1) := by decide +kernel
theorem d_Law_law_4 : decode code 4 = .ok (.invokespecial 81, 3) := by decide +kernel
theorem d_Law_law_7 : decode code 7 = .ok (.astore_n 1, 1) := by decide +kernel
theorem d_Law_law_8 : decode code 8 = .ok (.new 82, 3) := by decide +kernel
theorem d_Law_law_11 : decode code 11 = .ok (.dup, 1) := by decide +kernel
theorem d_Law_law_12 : decode code 12 = .ok (.invokespecial 84, 3) := by decide +kernel
theorem d_Law_law_15 : decode code 15 = .ok (.astore_n 2, 1) := by decide +kernel
theorem d_Law_law_16 : decode code 16 = .ok (.iconst 1, 1) := by decide +kernel
theorem d_Law_law_17 : decode code 17 = .ok (.newarray .long, 2) := by decide +kernel
theorem d_Law_law_19 : decode code 19 = .ok (.astore_n 3, 1) := by decide +kernel
theorem d_Law_law_20 : decode code 20 = .ok (.iconst 0, 1) := by decide +kernel
theorem d_Law_law_21 : decode code 21 = .ok (.istore 4, 2) := by decide +kernel
theorem d_Law_law_23 : decode code 23 = .ok (.iload 4, 2) := by decide +kernel
theorem d_Law_law_25 : decode code 25 = .ok (.aload_n 0, 1) := by decide +kernel
theorem d_Law_law_26 : decode code 26 = .ok (.arraylength, 1) := by decide +kernel
theorem d_Law_law_27 : decode code 27 = .ok (.iconst 5, 1) := by decide +kernel
theorem d_Law_law_28 : decode code 28 = .ok (.isub, 1) := by decide +kernel
theorem d_Law_law_29 : decode code 29 = .ok (.if_icmp .gt 1338, 3) := by decide +kernel
theorem d_Law_law_32 : decode code 32 = .ok (.aload_n 0, 1) := by decide +kernel
theorem d_Law_law_33 : decode code 33 = .ok (.iload 4, 2) := by decide +kernel
theorem d_Law_law_35 : decode code 35 = .ok (.iaload, 1) := by decide +kernel
theorem d_Law_law_36 : decode code 36 = .ok (.bipush 31, 2) := by decide +kernel
theorem d_Law_law_38 : decode code 38 = .ok (.iand, 1) := by decide +kernel
theorem d_Law_law_39 : decode code 39 = .ok (.tableswitch 1322 0 20 #[97, 141, 189, 245, 333, 381, 429, 497, 565, 656, 712, 780, 848, 896, 956, 1012, 1080, 1148, 1216, 1284, 1297], 97) := by decide +kernel
theorem d_Law_law_136 : decode code 136 = .ok (.aload_n 1, 1) := by decide +kernel
theorem d_Law_law_137 : decode code 137 = .ok (.aload_n 3, 1) := by decide +kernel
theorem d_Law_law_138 : decode code 138 = .ok (.invokestatic 85, 3) := by decide +kernel
theorem d_Law_law_141 : decode code 141 = .ok (.istore 5, 2) := by decide +kernel
theorem d_Law_law_143 : decode code 143 = .ok (.aload_n 2, 1) := by decide +kernel
theorem d_Law_law_144 : decode code 144 = .ok (.invokevirtual 90, 3) := by decide +kernel
theorem d_Law_law_147 : decode code 147 = .ok (.istore 6, 2) := by decide +kernel
theorem d_Law_law_149 : decode code 149 = .ok (.aload_n 2, 1) := by decide +kernel
theorem d_Law_law_150 : decode code 150 = .ok (.invokevirtual 91, 3) := by decide +kernel
theorem d_Law_law_153 : decode code 153 = .ok (.iload 5, 2) := by decide +kernel
theorem d_Law_law_155 : decode code 155 = .ok (.if_icmp .eq 5, 3) := by decide +kernel
theorem d_Law_law_158 : decode code 158 = .ok (.iconst 0, 1) := by decide +kernel
theorem d_Law_law_159 : decode code 159 = .ok (.ireturn, 1) := by decide +kernel
theorem d_Law_law_160 : decode code 160 = .ok (.iload 5, 2) := by decide +kernel
theorem d_Law_law_162 : decode code 162 = .ok (.ifCond .ne 15, 3) := by decide +kernel
theorem d_Law_law_165 : decode code 165 = .ok (.aload_n 3, 1) := by decide +kernel
theorem d_Law_law_166 : decode code 166 = .ok (.iconst 0, 1) := by decide +kernel
theorem d_Law_law_167 : decode code 167 = .ok (.laload, 1) := by decide +kernel
theorem d_Law_law_168 : decode code 168 = .ok (.iload 6, 2) := by decide +kernel
theorem d_Law_law_170 : decode code 170 = .ok (.i2l, 1) := by decide +kernel
theorem d_Law_law_171 : decode code 171 = .ok (.lcmp, 1) := by decide +kernel
theorem d_Law_law_172 : decode code 172 = .ok (.ifCond .eq 5, 3) := by decide +kernel
theorem d_Law_law_175 : decode code 175 = .ok (.iconst 0, 1) := by decide +kernel
theorem d_Law_law_176 : decode code 176 = .ok (.ireturn, 1) := by decide +kernel
theorem d_Law_law_177 : decode code 177 = .ok (.goto 1184, 3) := by decide +kernel
theorem d_Law_law_180 : decode code 180 = .ok (.aload_n 1, 1) := by decide +kernel
theorem d_Law_law_181 : decode code 181 = .ok (.aload_n 0, 1) := by decide +kernel
theorem d_Law_law_182 : decode code 182 = .ok (.iload 4, 2) := by decide +kernel
theorem d_Law_law_184 : decode code 184 = .ok (.iconst 1, 1) := by decide +kernel
theorem d_Law_law_185 : decode code 185 = .ok (.iadd, 1) := by decide +kernel
theorem d_Law_law_186 : decode code 186 = .ok (.iaload, 1) := by decide +kernel
theorem d_Law_law_187 : decode code 187 = .ok (.aload_n 0, 1) := by decide +kernel
theorem d_Law_law_188 : decode code 188 = .ok (.iload 4, 2) := by decide +kernel
theorem d_Law_law_190 : decode code 190 = .ok (.iconst 2, 1) := by decide +kernel
theorem d_Law_law_191 : decode code 191 = .ok (.iadd, 1) := by decide +kernel
theorem d_Law_law_192 : decode code 192 = .ok (.iaload, 1) := by decide +kernel
theorem d_Law_law_193 : decode code 193 = .ok (.invokestatic 94, 3) := by decide +kernel
theorem d_Law_law_196 : decode code 196 = .ok (.istore 5, 2) := by decide +kernel
theorem d_Law_law_198 : decode code 198 = .ok (.aload_n 2, 1) := by decide +kernel
theorem d_Law_law_199 : decode code 199 = .ok (.aload_n 0, 1) := by decide +kernel
theorem d_Law_law_200 : decode code 200 = .ok (.iload 4, 2) := by decide +kernel
theorem d_Law_law_202 : decode code 202 = .ok (.iconst 1, 1) := by decide +kernel
theorem d_Law_law_203 : decode code 203 = .ok (.iadd, 1) := by decide +kernel
theorem d_Law_law_204 : decode code 204 = .ok (.iaload, 1) := by decide +kernel
theorem d_Law_law_205 : decode code 205 = .ok (.aload_n 0, 1) := by decide +kernel
theorem d_Law_law_206 : decode code 206 = .ok (.iload 4, 2) := by decide +kernel
theorem d_Law_law_208 : decode code 208 = .ok (.iconst 2, 1) := by decide +kernel
theorem d_Law_law_209 : decode code 209 = .ok (.iadd, 1) := by decide +kernel
theorem d_Law_law_210 : decode code 210 = .ok (.iaload, 1) := by decide +kernel
theorem d_Law_law_211 : decode code 211 = .ok (.invokevirtual 97, 3) := by decide +kernel
theorem d_Law_law_214 : decode code 214 = .ok (.aload_n 2, 1) := by decide +kernel
theorem d_Law_law_215 : decode code 215 = .ok (.invokevirtual 91, 3) := by decide +kernel
theorem d_Law_law_218 : decode code 218 = .ok (.iload 5, 2) := by decide +kernel
theorem d_Law_law_220 : decode code 220 = .ok (.if_icmp .eq 5, 3) := by decide +kernel
theorem d_Law_law_223 : decode code 223 = .ok (.iconst 0, 1) := by decide +kernel
theorem d_Law_law_224 : decode code 224 = .ok (.ireturn, 1) := by decide +kernel
theorem d_Law_law_225 : decode code 225 = .ok (.goto 1136, 3) := by decide +kernel
theorem d_Law_law_228 : decode code 228 = .ok (.aload_n 1, 1) := by decide +kernel
theorem d_Law_law_229 : decode code 229 = .ok (.aload_n 0, 1) := by decide +kernel
theorem d_Law_law_230 : decode code 230 = .ok (.iload 4, 2) := by decide +kernel
theorem d_Law_law_232 : decode code 232 = .ok (.iconst 1, 1) := by decide +kernel
theorem d_Law_law_233 : decode code 233 = .ok (.iadd, 1) := by decide +kernel
theorem d_Law_law_234 : decode code 234 = .ok (.iaload, 1) := by decide +kernel
theorem d_Law_law_235 : decode code 235 = .ok (.aload_n 3, 1) := by decide +kernel
theorem d_Law_law_236 : decode code 236 = .ok (.invokestatic 98, 3) := by decide +kernel
theorem d_Law_law_239 : decode code 239 = .ok (.istore 5, 2) := by decide +kernel
theorem d_Law_law_241 : decode code 241 = .ok (.aload_n 2, 1) := by decide +kernel
theorem d_Law_law_242 : decode code 242 = .ok (.aload_n 0, 1) := by decide +kernel
theorem d_Law_law_243 : decode code 243 = .ok (.iload 4, 2) := by decide +kernel
theorem d_Law_law_245 : decode code 245 = .ok (.iconst 1, 1) := by decide +kernel
theorem d_Law_law_246 : decode code 246 = .ok (.iadd, 1) := by decide +kernel
theorem d_Law_law_247 : decode code 247 = .ok (.iaload, 1) := by decide +kernel
theorem d_Law_law_248 : decode code 248 = .ok (.invokevirtual 101, 3) := by decide +kernel
theorem d_Law_law_251 : decode code 251 = .ok (.istore 6, 2) := by decide +kernel
theorem d_Law_law_253 : decode code 253 = .ok (.aload_n 2, 1) := by decide +kernel
theorem d_Law_law_254 : decode code 254 = .ok (.invokevirtual 91, 3) := by decide +kernel
theorem d_Law_law_257 : decode code 257 = .ok (.iload 5, 2) := by decide +kernel
theorem d_Law_law_259 : decode code 259 = .ok (.if_icmp .eq 5, 3) := by decide +kernel
theorem d_Law_law_262 : decode code 262 = .ok (.iconst 0, 1) := by decide +kernel
theorem d_Law_law_263 : decode code 263 = .ok (.ireturn, 1) := by decide +kernel
theorem d_Law_law_264 : decode code 264 = .ok (.iload 5, 2) := by decide +kernel
theorem d_Law_law_266 : decode code 266 = .ok (.ifCond .ne 15, 3) := by decide +kernel
theorem d_Law_law_269 : decode code 269 = .ok (.aload_n 3, 1) := by decide +kernel
theorem d_Law_law_270 : decode code 270 = .ok (.iconst 0, 1) := by decide +kernel
theorem d_Law_law_271 : decode code 271 = .ok (.laload, 1) := by decide +kernel
theorem d_Law_law_272 : decode code 272 = .ok (.iload 6, 2) := by decide +kernel
theorem d_Law_law_274 : decode code 274 = .ok (.i2l, 1) := by decide +kernel
theorem d_Law_law_275 : decode code 275 = .ok (.lcmp, 1) := by decide +kernel
theorem d_Law_law_276 : decode code 276 = .ok (.ifCond .eq 5, 3) := by decide +kernel
theorem d_Law_law_279 : decode code 279 = .ok (.iconst 0, 1) := by decide +kernel
theorem d_Law_law_280 : decode code 280 = .ok (.ireturn, 1) := by decide +kernel
theorem d_Law_law_281 : decode code 281 = .ok (.goto 1080, 3) := by decide +kernel
theorem d_Law_law_284 : decode code 284 = .ok (.aload_n 1, 1) := by decide +kernel
theorem d_Law_law_285 : decode code 285 = .ok (.aload_n 0, 1) := by decide +kernel
theorem d_Law_law_286 : decode code 286 = .ok (.iload 4, 2) := by decide +kernel
theorem d_Law_law_288 : decode code 288 = .ok (.iconst 1, 1) := by decide +kernel
theorem d_Law_law_289 : decode code 289 = .ok (.iadd, 1) := by decide +kernel
theorem d_Law_law_290 : decode code 290 = .ok (.iaload, 1) := by decide +kernel
theorem d_Law_law_291 : decode code 291 = .ok (.aload_n 0, 1) := by decide +kernel
theorem d_Law_law_292 : decode code 292 = .ok (.iload 4, 2) := by decide +kernel
theorem d_Law_law_294 : decode code 294 = .ok (.iconst 2, 1) := by decide +kernel
theorem d_Law_law_295 : decode code 295 = .ok (.iadd, 1) := by decide +kernel
theorem d_Law_law_296 : decode code 296 = .ok (.iaload, 1) := by decide +kernel
theorem d_Law_law_297 : decode code 297 = .ok (.aload_n 0, 1) := by decide +kernel
theorem d_Law_law_298 : decode code 298 = .ok (.iload 4, 2) := by decide +kernel
theorem d_Law_law_300 : decode code 300 = .ok (.iconst 3, 1) := by decide +kernel
theorem d_Law_law_301 : decode code 301 = .ok (.iadd, 1) := by decide +kernel
theorem d_Law_law_302 : decode code 302 = .ok (.iaload, 1) := by decide +kernel
theorem d_Law_law_303 : decode code 303 = .ok (.ifCond .eq 7, 3) := by decide +kernel
theorem d_Law_law_306 : decode code 306 = .ok (.iconst 1, 1) := by decide +kernel
theorem d_Law_law_307 : decode code 307 = .ok (.goto 4, 3) := by decide +kernel
theorem d_Law_law_310 : decode code 310 = .ok (.iconst 0, 1) := by decide +kernel
theorem d_Law_law_311 : decode code 311 = .ok (.aload_n 0, 1) := by decide +kernel
theorem d_Law_law_312 : decode code 312 = .ok (.iload 4, 2) := by decide +kernel
theorem d_Law_law_314 : decode code 314 = .ok (.iconst 4, 1) := by decide +kernel
theorem d_Law_law_315 : decode code 315 = .ok (.iadd, 1) := by decide +kernel
theorem d_Law_law_316 : decode code 316 = .ok (.iaload, 1) := by decide +kernel
theorem d_Law_law_317 : decode code 317 = .ok (.invokestatic 102, 3) := by decide +kernel
theorem d_Law_law_320 : decode code 320 = .ok (.istore 5, 2) := by decide +kernel
theorem d_Law_law_322 : decode code 322 = .ok (.aload_n 2, 1) := by decide +kernel
theorem d_Law_law_323 : decode code 323 = .ok (.aload_n 0, 1) := by decide +kernel
theorem d_Law_law_324 : decode code 324 = .ok (.iload 4, 2) := by decide +kernel
theorem d_Law_law_326 : decode code 326 = .ok (.iconst 1, 1) := by decide +kernel
theorem d_Law_law_327 : decode code 327 = .ok (.iadd, 1) := by decide +kernel
theorem d_Law_law_328 : decode code 328 = .ok (.iaload, 1) := by decide +kernel
theorem d_Law_law_329 : decode code 329 = .ok (.aload_n 0, 1) := by decide +kernel
theorem d_Law_law_330 : decode code 330 = .ok (.iload 4, 2) := by decide +kernel
theorem d_Law_law_332 : decode code 332 = .ok (.iconst 2, 1) := by decide +kernel
theorem d_Law_law_333 : decode code 333 = .ok (.iadd, 1) := by decide +kernel
theorem d_Law_law_334 : decode code 334 = .ok (.iaload, 1) := by decide +kernel
theorem d_Law_law_335 : decode code 335 = .ok (.aload_n 0, 1) := by decide +kernel
theorem d_Law_law_336 : decode code 336 = .ok (.iload 4, 2) := by decide +kernel
theorem d_Law_law_338 : decode code 338 = .ok (.iconst 3, 1) := by decide +kernel
theorem d_Law_law_339 : decode code 339 = .ok (.iadd, 1) := by decide +kernel
theorem d_Law_law_340 : decode code 340 = .ok (.iaload, 1) := by decide +kernel
theorem d_Law_law_341 : decode code 341 = .ok (.ifCond .eq 7, 3) := by decide +kernel
theorem d_Law_law_344 : decode code 344 = .ok (.iconst 1, 1) := by decide +kernel
theorem d_Law_law_345 : decode code 345 = .ok (.goto 4, 3) := by decide +kernel
theorem d_Law_law_348 : decode code 348 = .ok (.iconst 0, 1) := by decide +kernel
theorem d_Law_law_349 : decode code 349 = .ok (.aload_n 0, 1) := by decide +kernel
theorem d_Law_law_350 : decode code 350 = .ok (.iload 4, 2) := by decide +kernel
theorem d_Law_law_352 : decode code 352 = .ok (.iconst 4, 1) := by decide +kernel
theorem d_Law_law_353 : decode code 353 = .ok (.iadd, 1) := by decide +kernel
theorem d_Law_law_354 : decode code 354 = .ok (.iaload, 1) := by decide +kernel
theorem d_Law_law_355 : decode code 355 = .ok (.invokevirtual 105, 3) := by decide +kernel
theorem d_Law_law_358 : decode code 358 = .ok (.aload_n 2, 1) := by decide +kernel
theorem d_Law_law_359 : decode code 359 = .ok (.invokevirtual 91, 3) := by decide +kernel
theorem d_Law_law_362 : decode code 362 = .ok (.iload 5, 2) := by decide +kernel
theorem d_Law_law_364 : decode code 364 = .ok (.if_icmp .eq 5, 3) := by decide +kernel
theorem d_Law_law_367 : decode code 367 = .ok (.iconst 0, 1) := by decide +kernel
theorem d_Law_law_368 : decode code 368 = .ok (.ireturn, 1) := by decide +kernel
theorem d_Law_law_369 : decode code 369 = .ok (.goto 992, 3) := by decide +kernel
theorem d_Law_law_372 : decode code 372 = .ok (.aload_n 1, 1) := by decide +kernel
theorem d_Law_law_373 : decode code 373 = .ok (.aload_n 0, 1) := by decide +kernel
theorem d_Law_law_374 : decode code 374 = .ok (.iload 4, 2) := by decide +kernel
theorem d_Law_law_376 : decode code 376 = .ok (.iconst 1, 1) := by decide +kernel
theorem d_Law_law_377 : decode code 377 = .ok (.iadd, 1) := by decide +kernel
theorem d_Law_law_378 : decode code 378 = .ok (.iaload, 1) := by decide +kernel
theorem d_Law_law_379 : decode code 379 = .ok (.aload_n 0, 1) := by decide +kernel
theorem d_Law_law_380 : decode code 380 = .ok (.iload 4, 2) := by decide +kernel
theorem d_Law_law_382 : decode code 382 = .ok (.iconst 2, 1) := by decide +kernel
theorem d_Law_law_383 : decode code 383 = .ok (.iadd, 1) := by decide +kernel
theorem d_Law_law_384 : decode code 384 = .ok (.iaload, 1) := by decide +kernel
theorem d_Law_law_385 : decode code 385 = .ok (.invokestatic 106, 3) := by decide +kernel
theorem d_Law_law_388 : decode code 388 = .ok (.istore 5, 2) := by decide +kernel
theorem d_Law_law_390 : decode code 390 = .ok (.aload_n 2, 1) := by decide +kernel
theorem d_Law_law_391 : decode code 391 = .ok (.aload_n 0, 1) := by decide +kernel
theorem d_Law_law_392 : decode code 392 = .ok (.iload 4, 2) := by decide +kernel
theorem d_Law_law_394 : decode code 394 = .ok (.iconst 1, 1) := by decide +kernel
theorem d_Law_law_395 : decode code 395 = .ok (.iadd, 1) := by decide +kernel
theorem d_Law_law_396 : decode code 396 = .ok (.iaload, 1) := by decide +kernel
theorem d_Law_law_397 : decode code 397 = .ok (.aload_n 0, 1) := by decide +kernel
theorem d_Law_law_398 : decode code 398 = .ok (.iload 4, 2) := by decide +kernel
theorem d_Law_law_400 : decode code 400 = .ok (.iconst 2, 1) := by decide +kernel
theorem d_Law_law_401 : decode code 401 = .ok (.iadd, 1) := by decide +kernel
theorem d_Law_law_402 : decode code 402 = .ok (.iaload, 1) := by decide +kernel
theorem d_Law_law_403 : decode code 403 = .ok (.invokevirtual 108, 3) := by decide +kernel
theorem d_Law_law_406 : decode code 406 = .ok (.aload_n 2, 1) := by decide +kernel
theorem d_Law_law_407 : decode code 407 = .ok (.invokevirtual 91, 3) := by decide +kernel
theorem d_Law_law_410 : decode code 410 = .ok (.iload 5, 2) := by decide +kernel
theorem d_Law_law_412 : decode code 412 = .ok (.if_icmp .eq 5, 3) := by decide +kernel
theorem d_Law_law_415 : decode code 415 = .ok (.iconst 0, 1) := by decide +kernel
theorem d_Law_law_416 : decode code 416 = .ok (.ireturn, 1) := by decide +kernel
theorem d_Law_law_417 : decode code 417 = .ok (.goto 944, 3) := by decide +kernel
theorem d_Law_law_420 : decode code 420 = .ok (.aload_n 1, 1) := by decide +kernel
theorem d_Law_law_421 : decode code 421 = .ok (.aload_n 0, 1) := by decide +kernel
theorem d_Law_law_422 : decode code 422 = .ok (.iload 4, 2) := by decide +kernel
theorem d_Law_law_424 : decode code 424 = .ok (.iconst 1, 1) := by decide +kernel
theorem d_Law_law_425 : decode code 425 = .ok (.iadd, 1) := by decide +kernel
theorem d_Law_law_426 : decode code 426 = .ok (.iaload, 1) := by decide +kernel
theorem d_Law_law_427 : decode code 427 = .ok (.aload_n 0, 1) := by decide +kernel
theorem d_Law_law_428 : decode code 428 = .ok (.iload 4, 2) := by decide +kernel
theorem d_Law_law_430 : decode code 430 = .ok (.iconst 2, 1) := by decide +kernel
theorem d_Law_law_431 : decode code 431 = .ok (.iadd, 1) := by decide +kernel
theorem d_Law_law_432 : decode code 432 = .ok (.iaload, 1) := by decide +kernel
theorem d_Law_law_433 : decode code 433 = .ok (.invokestatic 109, 3) := by decide +kernel
theorem d_Law_law_436 : decode code 436 = .ok (.istore 5, 2) := by decide +kernel
theorem d_Law_law_438 : decode code 438 = .ok (.aload_n 2, 1) := by decide +kernel
theorem d_Law_law_439 : decode code 439 = .ok (.aload_n 0, 1) := by decide +kernel
theorem d_Law_law_440 : decode code 440 = .ok (.iload 4, 2) := by decide +kernel
theorem d_Law_law_442 : decode code 442 = .ok (.iconst 1, 1) := by decide +kernel
theorem d_Law_law_443 : decode code 443 = .ok (.iadd, 1) := by decide +kernel
theorem d_Law_law_444 : decode code 444 = .ok (.iaload, 1) := by decide +kernel
theorem d_Law_law_445 : decode code 445 = .ok (.aload_n 0, 1) := by decide +kernel
theorem d_Law_law_446 : decode code 446 = .ok (.iload 4, 2) := by decide +kernel
theorem d_Law_law_448 : decode code 448 = .ok (.iconst 2, 1) := by decide +kernel
theorem d_Law_law_449 : decode code 449 = .ok (.iadd, 1) := by decide +kernel
theorem d_Law_law_450 : decode code 450 = .ok (.iaload, 1) := by decide +kernel
theorem d_Law_law_451 : decode code 451 = .ok (.invokevirtual 111, 3) := by decide +kernel
theorem d_Law_law_454 : decode code 454 = .ok (.aload_n 2, 1) := by decide +kernel
theorem d_Law_law_455 : decode code 455 = .ok (.invokevirtual 91, 3) := by decide +kernel
theorem d_Law_law_458 : decode code 458 = .ok (.iload 5, 2) := by decide +kernel
theorem d_Law_law_460 : decode code 460 = .ok (.if_icmp .eq 5, 3) := by decide +kernel
theorem d_Law_law_463 : decode code 463 = .ok (.iconst 0, 1) := by decide +kernel
theorem d_Law_law_464 : decode code 464 = .ok (.ireturn, 1) := by decide +kernel
theorem d_Law_law_465 : decode code 465 = .ok (.goto 896, 3) := by decide +kernel
theorem d_Law_law_468 : decode code 468 = .ok (.aload_n 1, 1) := by decide +kernel
theorem d_Law_law_469 : decode code 469 = .ok (.aload_n 0, 1) := by decide +kernel
theorem d_Law_law_470 : decode code 470 = .ok (.iload 4, 2) := by decide +kernel
theorem d_Law_law_472 : decode code 472 = .ok (.iconst 1, 1) := by decide +kernel
theorem d_Law_law_473 : decode code 473 = .ok (.iadd, 1) := by decide +kernel
theorem d_Law_law_474 : decode code 474 = .ok (.iaload, 1) := by decide +kernel
theorem d_Law_law_475 : decode code 475 = .ok (.aload_n 0, 1) := by decide +kernel
theorem d_Law_law_476 : decode code 476 = .ok (.iload 4, 2) := by decide +kernel
theorem d_Law_law_478 : decode code 478 = .ok (.iconst 2, 1) := by decide +kernel
theorem d_Law_law_479 : decode code 479 = .ok (.iadd, 1) := by decide +kernel
theorem d_Law_law_480 : decode code 480 = .ok (.iaload, 1) := by decide +kernel
theorem d_Law_law_481 : decode code 481 = .ok (.aload_n 3, 1) := by decide +kernel
theorem d_Law_law_482 : decode code 482 = .ok (.invokestatic 112, 3) := by decide +kernel
theorem d_Law_law_485 : decode code 485 = .ok (.istore 5, 2) := by decide +kernel
theorem d_Law_law_487 : decode code 487 = .ok (.aload_n 2, 1) := by decide +kernel
theorem d_Law_law_488 : decode code 488 = .ok (.aload_n 0, 1) := by decide +kernel
theorem d_Law_law_489 : decode code 489 = .ok (.iload 4, 2) := by decide +kernel
theorem d_Law_law_491 : decode code 491 = .ok (.iconst 1, 1) := by decide +kernel
theorem d_Law_law_492 : decode code 492 = .ok (.iadd, 1) := by decide +kernel
theorem d_Law_law_493 : decode code 493 = .ok (.iaload, 1) := by decide +kernel
theorem d_Law_law_494 : decode code 494 = .ok (.aload_n 0, 1) := by decide +kernel
theorem d_Law_law_495 : decode code 495 = .ok (.iload 4, 2) := by decide +kernel
theorem d_Law_law_497 : decode code 497 = .ok (.iconst 2, 1) := by decide +kernel
theorem d_Law_law_498 : decode code 498 = .ok (.iadd, 1) := by decide +kernel
theorem d_Law_law_499 : decode code 499 = .ok (.iaload, 1) := by decide +kernel
theorem d_Law_law_500 : decode code 500 = .ok (.invokevirtual 115, 3) := by decide +kernel
theorem d_Law_law_503 : decode code 503 = .ok (.istore 6, 2) := by decide +kernel
theorem d_Law_law_505 : decode code 505 = .ok (.aload_n 2, 1) := by decide +kernel
theorem d_Law_law_506 : decode code 506 = .ok (.invokevirtual 91, 3) := by decide +kernel
theorem d_Law_law_509 : decode code 509 = .ok (.iload 5, 2) := by decide +kernel
theorem d_Law_law_511 : decode code 511 = .ok (.if_icmp .eq 5, 3) := by decide +kernel
theorem d_Law_law_514 : decode code 514 = .ok (.iconst 0, 1) := by decide +kernel
theorem d_Law_law_515 : decode code 515 = .ok (.ireturn, 1) := by decide +kernel
theorem d_Law_law_516 : decode code 516 = .ok (.iload 5, 2) := by decide +kernel
theorem d_Law_law_518 : decode code 518 = .ok (.ifCond .ne 15, 3) := by decide +kernel
theorem d_Law_law_521 : decode code 521 = .ok (.aload_n 3, 1) := by decide +kernel
theorem d_Law_law_522 : decode code 522 = .ok (.iconst 0, 1) := by decide +kernel
theorem d_Law_law_523 : decode code 523 = .ok (.laload, 1) := by decide +kernel
theorem d_Law_law_524 : decode code 524 = .ok (.iload 6, 2) := by decide +kernel
theorem d_Law_law_526 : decode code 526 = .ok (.i2l, 1) := by decide +kernel
theorem d_Law_law_527 : decode code 527 = .ok (.lcmp, 1) := by decide +kernel
theorem d_Law_law_528 : decode code 528 = .ok (.ifCond .eq 5, 3) := by decide +kernel
theorem d_Law_law_531 : decode code 531 = .ok (.iconst 0, 1) := by decide +kernel
theorem d_Law_law_532 : decode code 532 = .ok (.ireturn, 1) := by decide +kernel
theorem d_Law_law_533 : decode code 533 = .ok (.goto 828, 3) := by decide +kernel
theorem d_Law_law_536 : decode code 536 = .ok (.aload_n 1, 1) := by decide +kernel
theorem d_Law_law_537 : decode code 537 = .ok (.aload_n 0, 1) := by decide +kernel
theorem d_Law_law_538 : decode code 538 = .ok (.iload 4, 2) := by decide +kernel
theorem d_Law_law_540 : decode code 540 = .ok (.iconst 1, 1) := by decide +kernel
theorem d_Law_law_541 : decode code 541 = .ok (.iadd, 1) := by decide +kernel
theorem d_Law_law_542 : decode code 542 = .ok (.iaload, 1) := by decide +kernel
theorem d_Law_law_543 : decode code 543 = .ok (.aload_n 0, 1) := by decide +kernel
theorem d_Law_law_544 : decode code 544 = .ok (.iload 4, 2) := by decide +kernel
theorem d_Law_law_546 : decode code 546 = .ok (.iconst 2, 1) := by decide +kernel
theorem d_Law_law_547 : decode code 547 = .ok (.iadd, 1) := by decide +kernel
theorem d_Law_law_548 : decode code 548 = .ok (.iaload, 1) := by decide +kernel
theorem d_Law_law_549 : decode code 549 = .ok (.aload_n 3, 1) := by decide +kernel
theorem d_Law_law_550 : decode code 550 = .ok (.invokestatic 116, 3) := by decide +kernel
theorem d_Law_law_553 : decode code 553 = .ok (.istore 5, 2) := by decide +kernel
theorem d_Law_law_555 : decode code 555 = .ok (.aload_n 2, 1) := by decide +kernel
theorem d_Law_law_556 : decode code 556 = .ok (.aload_n 0, 1) := by decide +kernel
theorem d_Law_law_557 : decode code 557 = .ok (.iload 4, 2) := by decide +kernel
theorem d_Law_law_559 : decode code 559 = .ok (.iconst 1, 1) := by decide +kernel
theorem d_Law_law_560 : decode code 560 = .ok (.iadd, 1) := by decide +kernel
theorem d_Law_law_561 : decode code 561 = .ok (.iaload, 1) := by decide +kernel
theorem d_Law_law_562 : decode code 562 = .ok (.aload_n 0, 1) := by decide +kernel
theorem d_Law_law_563 : decode code 563 = .ok (.iload 4, 2) := by decide +kernel
theorem d_Law_law_565 : decode code 565 = .ok (.iconst 2, 1) := by decide +kernel
theorem d_Law_law_566 : decode code 566 = .ok (.iadd, 1) := by decide +kernel
theorem d_Law_law_567 : decode code 567 = .ok (.iaload, 1) := by decide +kernel
theorem d_Law_law_568 : decode code 568 = .ok (.invokevirtual 118, 3) := by decide +kernel
theorem d_Law_law_571 : decode code 571 = .ok (.istore 6, 2) := by decide +kernel
theorem d_Law_law_573 : decode code 573 = .ok (.aload_n 2, 1) := by decide +kernel
theorem d_Law_law_574 : decode code 574 = .ok (.invokevirtual 91, 3) := by decide +kernel
theorem d_Law_law_577 : decode code 577 = .ok (.iload 5, 2) := by decide +kernel
theorem d_Law_law_579 : decode code 579 = .ok (.if_icmp .eq 5, 3) := by decide +kernel
theorem d_Law_law_582 : decode code 582 = .ok (.iconst 0, 1) := by decide +kernel
theorem d_Law_law_583 : decode code 583 = .ok (.ireturn, 1) := by decide +kernel
theorem d_Law_law_584 : decode code 584 = .ok (.iload 5, 2) := by decide +kernel
theorem d_Law_law_586 : decode code 586 = .ok (.ifCond .ne 15, 3) := by decide +kernel
theorem d_Law_law_589 : decode code 589 = .ok (.aload_n 3, 1) := by decide +kernel
theorem d_Law_law_590 : decode code 590 = .ok (.iconst 0, 1) := by decide +kernel
theorem d_Law_law_591 : decode code 591 = .ok (.laload, 1) := by decide +kernel
theorem d_Law_law_592 : decode code 592 = .ok (.iload 6, 2) := by decide +kernel
theorem d_Law_law_594 : decode code 594 = .ok (.i2l, 1) := by decide +kernel
theorem d_Law_law_595 : decode code 595 = .ok (.lcmp, 1) := by decide +kernel
theorem d_Law_law_596 : decode code 596 = .ok (.ifCond .eq 5, 3) := by decide +kernel
theorem d_Law_law_599 : decode code 599 = .ok (.iconst 0, 1) := by decide +kernel
theorem d_Law_law_600 : decode code 600 = .ok (.ireturn, 1) := by decide +kernel
theorem d_Law_law_601 : decode code 601 = .ok (.goto 760, 3) := by decide +kernel
theorem d_Law_law_604 : decode code 604 = .ok (.aload_n 1, 1) := by decide +kernel
theorem d_Law_law_605 : decode code 605 = .ok (.aload_n 0, 1) := by decide +kernel
theorem d_Law_law_606 : decode code 606 = .ok (.iload 4, 2) := by decide +kernel
theorem d_Law_law_608 : decode code 608 = .ok (.iconst 1, 1) := by decide +kernel
theorem d_Law_law_609 : decode code 609 = .ok (.iadd, 1) := by decide +kernel
theorem d_Law_law_610 : decode code 610 = .ok (.iaload, 1) := by decide +kernel
theorem d_Law_law_611 : decode code 611 = .ok (.aload_n 0, 1) := by decide +kernel
theorem d_Law_law_612 : decode code 612 = .ok (.iload 4, 2) := by decide +kernel
theorem d_Law_law_614 : decode code 614 = .ok (.iconst 2, 1) := by decide +kernel
theorem d_Law_law_615 : decode code 615 = .ok (.iadd, 1) := by decide +kernel
theorem d_Law_law_616 : decode code 616 = .ok (.iaload, 1) := by decide +kernel
theorem d_Law_law_617 : decode code 617 = .ok (.ifCond .eq 7, 3) := by decide +kernel
theorem d_Law_law_620 : decode code 620 = .ok (.iconst 1, 1) := by decide +kernel
theorem d_Law_law_621 : decode code 621 = .ok (.goto 4, 3) := by decide +kernel
theorem d_Law_law_624 : decode code 624 = .ok (.iconst 0, 1) := by decide +kernel
theorem d_Law_law_625 : decode code 625 = .ok (.aload_n 3, 1) := by decide +kernel
theorem d_Law_law_626 : decode code 626 = .ok (.invokestatic 119, 3) := by decide +kernel
theorem d_Law_law_629 : decode code 629 = .ok (.istore 5, 2) := by decide +kernel
theorem d_Law_law_631 : decode code 631 = .ok (.aload_n 2, 1) := by decide +kernel
theorem d_Law_law_632 : decode code 632 = .ok (.aload_n 0, 1) := by decide +kernel
theorem d_Law_law_633 : decode code 633 = .ok (.iload 4, 2) := by decide +kernel
theorem d_Law_law_635 : decode code 635 = .ok (.iconst 1, 1) := by decide +kernel
theorem d_Law_law_636 : decode code 636 = .ok (.iadd, 1) := by decide +kernel
theorem d_Law_law_637 : decode code 637 = .ok (.iaload, 1) := by decide +kernel
theorem d_Law_law_638 : decode code 638 = .ok (.aload_n 0, 1) := by decide +kernel
theorem d_Law_law_639 : decode code 639 = .ok (.iload 4, 2) := by decide +kernel
theorem d_Law_law_641 : decode code 641 = .ok (.iconst 2, 1) := by decide +kernel
theorem d_Law_law_642 : decode code 642 = .ok (.iadd, 1) := by decide +kernel
theorem d_Law_law_643 : decode code 643 = .ok (.iaload, 1) := by decide +kernel
theorem d_Law_law_644 : decode code 644 = .ok (.ifCond .eq 7, 3) := by decide +kernel
theorem d_Law_law_647 : decode code 647 = .ok (.iconst 1, 1) := by decide +kernel
theorem d_Law_law_648 : decode code 648 = .ok (.goto 4, 3) := by decide +kernel
theorem d_Law_law_651 : decode code 651 = .ok (.iconst 0, 1) := by decide +kernel
theorem d_Law_law_652 : decode code 652 = .ok (.invokevirtual 122, 3) := by decide +kernel
theorem d_Law_law_655 : decode code 655 = .ok (.istore 6, 2) := by decide +kernel
theorem d_Law_law_657 : decode code 657 = .ok (.aload_n 2, 1) := by decide +kernel
theorem d_Law_law_658 : decode code 658 = .ok (.invokevirtual 91, 3) := by decide +kernel
theorem d_Law_law_661 : decode code 661 = .ok (.iload 5, 2) := by decide +kernel
theorem d_Law_law_663 : decode code 663 = .ok (.if_icmp .eq 5, 3) := by decide +kernel
theorem d_Law_law_666 : decode code 666 = .ok (.iconst 0, 1) := by decide +kernel
theorem d_Law_law_667 : decode code 667 = .ok (.ireturn, 1) := by decide +kernel
theorem d_Law_law_668 : decode code 668 = .ok (.iload 5, 2) := by decide +kernel
theorem d_Law_law_670 : decode code 670 = .ok (.ifCond .ne 22, 3) := by decide +kernel
theorem d_Law_law_673 : decode code 673 = .ok (.aload_n 3, 1) := by decide +kernel
theorem d_Law_law_674 : decode code 674 = .ok (.iconst 0, 1) := by decide +kernel
theorem d_Law_law_675 : decode code 675 = .ok (.laload, 1) := by decide +kernel
theorem d_Law_law_676 : decode code 676 = .ok (.iload 6, 2) := by decide +kernel
theorem d_Law_law_678 : decode code 678 = .ok (.ifCond .eq 7, 3) := by decide +kernel
theorem d_Law_law_681 : decode code 681 = .ok (.lconst 1, 1) := by decide +kernel
theorem d_Law_law_682 : decode code 682 = .ok (.goto 4, 3) := by decide +kernel
theorem d_Law_law_685 : decode code 685 = .ok (.lconst 0, 1) := by decide +kernel
theorem d_Law_law_686 : decode code 686 = .ok (.lcmp, 1) := by decide +kernel
theorem d_Law_law_687 : decode code 687 = .ok (.ifCond .eq 5, 3) := by decide +kernel
theorem d_Law_law_690 : decode code 690 = .ok (.iconst 0, 1) := by decide +kernel
theorem d_Law_law_691 : decode code 691 = .ok (.ireturn, 1) := by decide +kernel
theorem d_Law_law_692 : decode code 692 = .ok (.goto 669, 3) := by decide +kernel
theorem d_Law_law_695 : decode code 695 = .ok (.aload_n 1, 1) := by decide +kernel
theorem d_Law_law_696 : decode code 696 = .ok (.aload_n 0, 1) := by decide +kernel
theorem d_Law_law_697 : decode code 697 = .ok (.iload 4, 2) := by decide +kernel
theorem d_Law_law_699 : decode code 699 = .ok (.iconst 1, 1) := by decide +kernel
theorem d_Law_law_700 : decode code 700 = .ok (.iadd, 1) := by decide +kernel
theorem d_Law_law_701 : decode code 701 = .ok (.iaload, 1) := by decide +kernel
theorem d_Law_law_702 : decode code 702 = .ok (.aload_n 3, 1) := by decide +kernel
theorem d_Law_law_703 : decode code 703 = .ok (.invokestatic 123, 3) := by decide +kernel
theorem d_Law_law_706 : decode code 706 = .ok (.istore 5, 2) := by decide +kernel
theorem d_Law_law_708 : decode code 708 = .ok (.aload_n 2, 1) := by decide +kernel
theorem d_Law_law_709 : decode code 709 = .ok (.aload_n 0, 1) := by decide +kernel
theorem d_Law_law_710 : decode code 710 = .ok (.iload 4, 2) := by decide +kernel
theorem d_Law_law_712 : decode code 712 = .ok (.iconst 1, 1) := by decide +kernel
theorem d_Law_law_713 : decode code 713 = .ok (.iadd, 1) := by decide +kernel
theorem d_Law_law_714 : decode code 714 = .ok (.iaload, 1) := by decide +kernel
theorem d_Law_law_715 : decode code 715 = .ok (.invokevirtual 125, 3) := by decide +kernel
theorem d_Law_law_718 : decode code 718 = .ok (.istore 6, 2) := by decide +kernel
theorem d_Law_law_720 : decode code 720 = .ok (.aload_n 2, 1) := by decide +kernel
theorem d_Law_law_721 : decode code 721 = .ok (.invokevirtual 91, 3) := by decide +kernel
theorem d_Law_law_724 : decode code 724 = .ok (.iload 5, 2) := by decide +kernel
theorem d_Law_law_726 : decode code 726 = .ok (.if_icmp .eq 5, 3) := by decide +kernel
theorem d_Law_law_729 : decode code 729 = .ok (.iconst 0, 1) := by decide +kernel
theorem d_Law_law_730 : decode code 730 = .ok (.ireturn, 1) := by decide +kernel
theorem d_Law_law_731 : decode code 731 = .ok (.iload 5, 2) := by decide +kernel
theorem d_Law_law_733 : decode code 733 = .ok (.ifCond .ne 15, 3) := by decide +kernel
