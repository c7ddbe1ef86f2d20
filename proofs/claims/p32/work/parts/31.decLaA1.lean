theorem d_La_acts_0 : decode c_La_acts 0 = .ok (.iload_n 1, 1) := by decide +kernel
theorem d_La_acts_1 : decode c_La_acts 1 = .ok (.iconst 4, 1) := by decide +kernel
theorem d_La_acts_2 : decode c_La_acts 2 = .ok (.ishr, 1) := by decide +kernel
theorem d_La_acts_3 : decode c_La_acts 3 = .ok (.iconst 2, 1) := by decide +kernel
theorem d_La_acts_4 : decode c_La_acts 4 = .ok (.irem, 1) := by decide +kernel
theorem d_La_acts_5 : decode c_La_acts 5 = .ok (.istore_n 2, 1) := by decide +kernel
theorem d_La_acts_6 : decode c_La_acts 6 = .ok (.iload_n 1, 1) := by decide +kernel
theorem d_La_acts_7 : decode c_La_acts 7 = .ok (.iconst 5, 1) := by decide +kernel
theorem d_La_acts_8 : decode c_La_acts 8 = .ok (.ishr, 1) := by decide +kernel
theorem d_La_acts_9 : decode c_La_acts 9 = .ok (.iconst 3, 1) := by decide +kernel
theorem d_La_acts_10 : decode c_La_acts 10 = .ok (.irem, 1) := by decide +kernel
theorem d_La_acts_11 : decode c_La_acts 11 = .ok (.istore_n 3, 1) := by decide +kernel
theorem d_La_acts_12 : decode c_La_acts 12 = .ok (.aload_n 0, 1) := by decide +kernel
theorem d_La_acts_13 : decode c_La_acts 13 = .ok (.iconst 3, 1) := by decide +kernel
theorem d_La_acts_14 : decode c_La_acts 14 = .ok (.invokevirtual 22, 3) := by decide +kernel
theorem d_La_acts_17 : decode c_La_acts 17 = .ok (.istore 4, 2) := by decide +kernel
theorem d_La_acts_19 : decode c_La_acts 19 = .ok (.iload_n 1, 1) := by decide +kernel
theorem d_La_acts_20 : decode c_La_acts 20 = .ok (.bipush 12, 2) := by decide +kernel
theorem d_La_acts_22 : decode c_La_acts 22 = .ok (.irem, 1) := by decide +kernel
theorem d_La_acts_23 : decode c_La_acts 23 = .ok (.tableswitch 716 0 10 #[57, 57, 57, 234, 316, 316, 316, 418, 418, 543, 617], 57) := by decide +kernel
theorem d_La_acts_80 : decode c_La_acts 80 = .ok (.aload_n 0, 1) := by decide +kernel
theorem d_La_acts_81 : decode c_La_acts 81 = .ok (.iconst 1, 1) := by decide +kernel
theorem d_La_acts_82 : decode c_La_acts 82 = .ok (.invokevirtual 22, 3) := by decide +kernel
theorem d_La_acts_85 : decode c_La_acts 85 = .ok (.istore 5, 2) := by decide +kernel
theorem d_La_acts_87 : decode c_La_acts 87 = .ok (.aload_n 0, 1) := by decide +kernel
theorem d_La_acts_88 : decode c_La_acts 88 = .ok (.invokevirtual 54, 3) := by decide +kernel
theorem d_La_acts_91 : decode c_La_acts 91 = .ok (.ifCond .lt 49, 3) := by decide +kernel
theorem d_La_acts_94 : decode c_La_acts 94 = .ok (.aload_n 0, 1) := by decide +kernel
theorem d_La_acts_95 : decode c_La_acts 95 = .ok (.iload_n 1, 1) := by decide +kernel
theorem d_La_acts_96 : decode c_La_acts 96 = .ok (.iconst 4, 1) := by decide +kernel
theorem d_La_acts_97 : decode c_La_acts 97 = .ok (.ishr, 1) := by decide +kernel
theorem d_La_acts_98 : decode c_La_acts 98 = .ok (.invokestatic 58, 3) := by decide +kernel
theorem d_La_acts_101 : decode c_La_acts 101 = .ok (.ifCond .eq 39, 3) := by decide +kernel
theorem d_La_acts_104 : decode c_La_acts 104 = .ok (.iload_n 1, 1) := by decide +kernel
theorem d_La_acts_105 : decode c_La_acts 105 = .ok (.iconst 3, 1) := by decide +kernel
theorem d_La_acts_106 : decode c_La_acts 106 = .ok (.ishr, 1) := by decide +kernel
theorem d_La_acts_107 : decode c_La_acts 107 = .ok (.iconst 3, 1) := by decide +kernel
theorem d_La_acts_108 : decode c_La_acts 108 = .ok (.irem, 1) := by decide +kernel
theorem d_La_acts_109 : decode c_La_acts 109 = .ok (.ifCond .eq 27, 3) := by decide +kernel
theorem d_La_acts_112 : decode c_La_acts 112 = .ok (.aload_n 0, 1) := by decide +kernel
theorem d_La_acts_113 : decode c_La_acts 113 = .ok (.ldc2_w 62, 3) := by decide +kernel
theorem d_La_acts_116 : decode c_La_acts 116 = .ok (.invokevirtual 9, 3) := by decide +kernel
theorem d_La_acts_119 : decode c_La_acts 119 = .ok (.ifCond .le 21, 3) := by decide +kernel
theorem d_La_acts_122 : decode c_La_acts 122 = .ok (.aload_n 0, 1) := by decide +kernel
theorem d_La_acts_123 : decode c_La_acts 123 = .ok (.iload_n 1, 1) := by decide +kernel
theorem d_La_acts_124 : decode c_La_acts 124 = .ok (.bipush 9, 2) := by decide +kernel
theorem d_La_acts_126 : decode c_La_acts 126 = .ok (.ishr, 1) := by decide +kernel
theorem d_La_acts_127 : decode c_La_acts 127 = .ok (.bipush 77, 2) := by decide +kernel
theorem d_La_acts_129 : decode c_La_acts 129 = .ok (.iadd, 1) := by decide +kernel
theorem d_La_acts_130 : decode c_La_acts 130 = .ok (.invokestatic 58, 3) := by decide +kernel
theorem d_La_acts_133 : decode c_La_acts 133 = .ok (.ifCond .eq 7, 3) := by decide +kernel
theorem d_La_acts_136 : decode c_La_acts 136 = .ok (.iconst 1, 1) := by decide +kernel
theorem d_La_acts_137 : decode c_La_acts 137 = .ok (.goto 4, 3) := by decide +kernel
theorem d_La_acts_140 : decode c_La_acts 140 = .ok (.iconst 0, 1) := by decide +kernel
theorem d_La_acts_141 : decode c_La_acts 141 = .ok (.istore 6, 2) := by decide +kernel
theorem d_La_acts_143 : decode c_La_acts 143 = .ok (.aload_n 0, 1) := by decide +kernel
theorem d_La_acts_144 : decode c_La_acts 144 = .ok (.bipush 12, 2) := by decide +kernel
theorem d_La_acts_146 : decode c_La_acts 146 = .ok (.invokevirtual 22, 3) := by decide +kernel
theorem d_La_acts_149 : decode c_La_acts 149 = .ok (.istore 7, 2) := by decide +kernel
theorem d_La_acts_151 : decode c_La_acts 151 = .ok (.aload_n 0, 1) := by decide +kernel
theorem d_La_acts_152 : decode c_La_acts 152 = .ok (.iload_n 2, 1) := by decide +kernel
theorem d_La_acts_153 : decode c_La_acts 153 = .ok (.iload_n 3, 1) := by decide +kernel
theorem d_La_acts_154 : decode c_La_acts 154 = .ok (.invokevirtual 64, 3) := by decide +kernel
theorem d_La_acts_157 : decode c_La_acts 157 = .ok (.istore 8, 2) := by decide +kernel
theorem d_La_acts_159 : decode c_La_acts 159 = .ok (.iload 6, 2) := by decide +kernel
theorem d_La_acts_161 : decode c_La_acts 161 = .ok (.ifCond .eq 94, 3) := by decide +kernel
theorem d_La_acts_164 : decode c_La_acts 164 = .ok (.iload 8, 2) := by decide +kernel
theorem d_La_acts_166 : decode c_La_acts 166 = .ok (.ifCond .ge 41, 3) := by decide +kernel
theorem d_La_acts_169 : decode c_La_acts 169 = .ok (.iload 8, 2) := by decide +kernel
theorem d_La_acts_171 : decode c_La_acts 171 = .ok (.bipush (-5), 2) := by decide +kernel
theorem d_La_acts_173 : decode c_La_acts 173 = .ok (.if_icmp .eq 10, 3) := by decide +kernel
theorem d_La_acts_176 : decode c_La_acts 176 = .ok (.iload 8, 2) := by decide +kernel
theorem d_La_acts_178 : decode c_La_acts 178 = .ok (.bipush (-4), 2) := by decide +kernel
theorem d_La_acts_180 : decode c_La_acts 180 = .ok (.if_icmp .ne 75, 3) := by decide +kernel
theorem d_La_acts_183 : decode c_La_acts 183 = .ok (.aload_n 0, 1) := by decide +kernel
theorem d_La_acts_184 : decode c_La_acts 184 = .ok (.bipush 12, 2) := by decide +kernel
theorem d_La_acts_186 : decode c_La_acts 186 = .ok (.invokevirtual 22, 3) := by decide +kernel
theorem d_La_acts_189 : decode c_La_acts 189 = .ok (.iload 7, 2) := by decide +kernel
theorem d_La_acts_191 : decode c_La_acts 191 = .ok (.if_icmp .ne 64, 3) := by decide +kernel
theorem d_La_acts_194 : decode c_La_acts 194 = .ok (.aload_n 0, 1) := by decide +kernel
theorem d_La_acts_195 : decode c_La_acts 195 = .ok (.iconst 1, 1) := by decide +kernel
theorem d_La_acts_196 : decode c_La_acts 196 = .ok (.invokevirtual 22, 3) := by decide +kernel
theorem d_La_acts_199 : decode c_La_acts 199 = .ok (.iload 5, 2) := by decide +kernel
theorem d_La_acts_201 : decode c_La_acts 201 = .ok (.if_icmp .ne 54, 3) := by decide +kernel
theorem d_La_acts_204 : decode c_La_acts 204 = .ok (.goto 47, 3) := by decide +kernel
theorem d_La_acts_207 : decode c_La_acts 207 = .ok (.aload_n 0, 1) := by decide +kernel
theorem d_La_acts_208 : decode c_La_acts 208 = .ok (.bipush 12, 2) := by decide +kernel
theorem d_La_acts_210 : decode c_La_acts 210 = .ok (.invokevirtual 22, 3) := by decide +kernel
theorem d_La_acts_213 : decode c_La_acts 213 = .ok (.ifCond .ne 42, 3) := by decide +kernel
theorem d_La_acts_216 : decode c_La_acts 216 = .ok (.aload_n 0, 1) := by decide +kernel
theorem d_La_acts_217 : decode c_La_acts 217 = .ok (.iconst 1, 1) := by decide +kernel
theorem d_La_acts_218 : decode c_La_acts 218 = .ok (.invokevirtual 22, 3) := by decide +kernel
theorem d_La_acts_221 : decode c_La_acts 221 = .ok (.iload 5, 2) := by decide +kernel
theorem d_La_acts_223 : decode c_La_acts 223 = .ok (.if_icmp .lt 32, 3) := by decide +kernel
theorem d_La_acts_226 : decode c_La_acts 226 = .ok (.aload_n 0, 1) := by decide +kernel
theorem d_La_acts_227 : decode c_La_acts 227 = .ok (.iload_n 2, 1) := by decide +kernel
theorem d_La_acts_228 : decode c_La_acts 228 = .ok (.iload_n 3, 1) := by decide +kernel
theorem d_La_acts_229 : decode c_La_acts 229 = .ok (.iload 8, 2) := by decide +kernel
theorem d_La_acts_231 : decode c_La_acts 231 = .ok (.iconst 1, 1) := by decide +kernel
theorem d_La_acts_232 : decode c_La_acts 232 = .ok (.isub, 1) := by decide +kernel
theorem d_La_acts_233 : decode c_La_acts 233 = .ok (.invokevirtual 38, 3) := by decide +kernel
theorem d_La_acts_236 : decode c_La_acts 236 = .ok (.ifCond .lt 19, 3) := by decide +kernel
theorem d_La_acts_239 : decode c_La_acts 239 = .ok (.aload_n 0, 1) := by decide +kernel
theorem d_La_acts_240 : decode c_La_acts 240 = .ok (.iload_n 2, 1) := by decide +kernel
theorem d_La_acts_241 : decode c_La_acts 241 = .ok (.iload_n 3, 1) := by decide +kernel
theorem d_La_acts_242 : decode c_La_acts 242 = .ok (.iload 8, 2) := by decide +kernel
theorem d_La_acts_244 : decode c_La_acts 244 = .ok (.invokevirtual 38, 3) := by decide +kernel
theorem d_La_acts_247 : decode c_La_acts 247 = .ok (.iconst (-1), 1) := by decide +kernel
theorem d_La_acts_248 : decode c_La_acts 248 = .ok (.if_icmp .ne 7, 3) := by decide +kernel
theorem d_La_acts_251 : decode c_La_acts 251 = .ok (.iconst 1, 1) := by decide +kernel
theorem d_La_acts_252 : decode c_La_acts 252 = .ok (.goto 4, 3) := by decide +kernel
theorem d_La_acts_255 : decode c_La_acts 255 = .ok (.iconst 0, 1) := by decide +kernel
theorem d_La_acts_256 : decode c_La_acts 256 = .ok (.ireturn, 1) := by decide +kernel
theorem d_La_acts_257 : decode c_La_acts 257 = .ok (.iload_n 1, 1) := by decide +kernel
theorem d_La_acts_258 : decode c_La_acts 258 = .ok (.bipush 8, 2) := by decide +kernel
theorem d_La_acts_260 : decode c_La_acts 260 = .ok (.ishr, 1) := by decide +kernel
theorem d_La_acts_261 : decode c_La_acts 261 = .ok (.bipush 8, 2) := by decide +kernel
theorem d_La_acts_263 : decode c_La_acts 263 = .ok (.irem, 1) := by decide +kernel
theorem d_La_acts_264 : decode c_La_acts 264 = .ok (.istore 9, 2) := by decide +kernel
theorem d_La_acts_266 : decode c_La_acts 266 = .ok (.aload_n 0, 1) := by decide +kernel
theorem d_La_acts_267 : decode c_La_acts 267 = .ok (.iload_n 2, 1) := by decide +kernel
theorem d_La_acts_268 : decode c_La_acts 268 = .ok (.iload_n 3, 1) := by decide +kernel
theorem d_La_acts_269 : decode c_La_acts 269 = .ok (.iload 9, 2) := by decide +kernel
theorem d_La_acts_271 : decode c_La_acts 271 = .ok (.invokevirtual 38, 3) := by decide +kernel
theorem d_La_acts_274 : decode c_La_acts 274 = .ok (.istore 10, 2) := by decide +kernel
theorem d_La_acts_276 : decode c_La_acts 276 = .ok (.iload_n 1, 1) := by decide +kernel
theorem d_La_acts_277 : decode c_La_acts 277 = .ok (.bipush 11, 2) := by decide +kernel
theorem d_La_acts_279 : decode c_La_acts 279 = .ok (.ishr, 1) := by decide +kernel
theorem d_La_acts_280 : decode c_La_acts 280 = .ok (.iconst 3, 1) := by decide +kernel
theorem d_La_acts_281 : decode c_La_acts 281 = .ok (.irem, 1) := by decide +kernel
theorem d_La_acts_282 : decode c_La_acts 282 = .ok (.ifCond .le 8, 3) := by decide +kernel
theorem d_La_acts_285 : decode c_La_acts 285 = .ok (.bipush (-9), 2) := by decide +kernel
theorem d_La_acts_287 : decode c_La_acts 287 = .ok (.goto 11, 3) := by decide +kernel
theorem d_La_acts_290 : decode c_La_acts 290 = .ok (.aload_n 0, 1) := by decide +kernel
theorem d_La_acts_291 : decode c_La_acts 291 = .ok (.iload_n 2, 1) := by decide +kernel
theorem d_La_acts_292 : decode c_La_acts 292 = .ok (.iload_n 3, 1) := by decide +kernel
theorem d_La_acts_293 : decode c_La_acts 293 = .ok (.iload 9, 2) := by decide +kernel
theorem d_La_acts_295 : decode c_La_acts 295 = .ok (.invokevirtual 67, 3) := by decide +kernel
theorem d_La_acts_298 : decode c_La_acts 298 = .ok (.istore 11, 2) := by decide +kernel
theorem d_La_acts_300 : decode c_La_acts 300 = .ok (.iload 11, 2) := by decide +kernel
theorem d_La_acts_302 : decode c_La_acts 302 = .ok (.bipush (-9), 2) := by decide +kernel
theorem d_La_acts_304 : decode c_La_acts 304 = .ok (.if_icmp .eq 29, 3) := by decide +kernel
theorem d_La_acts_307 : decode c_La_acts 307 = .ok (.iload 11, 2) := by decide +kernel
theorem d_La_acts_309 : decode c_La_acts 309 = .ok (.iload 10, 2) := by decide +kernel
theorem d_La_acts_311 : decode c_La_acts 311 = .ok (.if_icmp .ne 26, 3) := by decide +kernel
theorem d_La_acts_314 : decode c_La_acts 314 = .ok (.iload 10, 2) := by decide +kernel
theorem d_La_acts_316 : decode c_La_acts 316 = .ok (.ifCond .lt 17, 3) := by decide +kernel
theorem d_La_acts_319 : decode c_La_acts 319 = .ok (.aload_n 0, 1) := by decide +kernel
theorem d_La_acts_320 : decode c_La_acts 320 = .ok (.iload 10, 2) := by decide +kernel
theorem d_La_acts_322 : decode c_La_acts 322 = .ok (.iconst 2, 1) := by decide +kernel
