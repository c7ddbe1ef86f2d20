theorem d_La_areNames_0 : decode c_La_areNames 0 = .ok (.aload_n 0, 1) := by decide +kernel
theorem d_La_areNames_1 : decode c_La_areNames 1 = .ok (.iconst 1, 1) := by decide +kernel
theorem d_La_areNames_2 : decode c_La_areNames 2 = .ok (.invokevirtual 22, 3) := by decide +kernel
theorem d_La_areNames_5 : decode c_La_areNames 5 = .ok (.istore_n 1, 1) := by decide +kernel
theorem d_La_areNames_6 : decode c_La_areNames 6 = .ok (.iconst 0, 1) := by decide +kernel
theorem d_La_areNames_7 : decode c_La_areNames 7 = .ok (.istore_n 2, 1) := by decide +kernel
theorem d_La_areNames_8 : decode c_La_areNames 8 = .ok (.iconst 0, 1) := by decide +kernel
theorem d_La_areNames_9 : decode c_La_areNames 9 = .ok (.istore_n 3, 1) := by decide +kernel
theorem d_La_areNames_10 : decode c_La_areNames 10 = .ok (.aload_n 0, 1) := by decide +kernel
theorem d_La_areNames_11 : decode c_La_areNames 11 = .ok (.iload_n 1, 1) := by decide +kernel
theorem d_La_areNames_12 : decode c_La_areNames 12 = .ok (.iconst 0, 1) := by decide +kernel
theorem d_La_areNames_13 : decode c_La_areNames 13 = .ok (.invokevirtual 26, 3) := by decide +kernel
theorem d_La_areNames_16 : decode c_La_areNames 16 = .ok (.iconst (-1), 1) := by decide +kernel
theorem d_La_areNames_17 : decode c_La_areNames 17 = .ok (.if_icmp .ne 25, 3) := by decide +kernel
theorem d_La_areNames_20 : decode c_La_areNames 20 = .ok (.aload_n 0, 1) := by decide +kernel
theorem d_La_areNames_21 : decode c_La_areNames 21 = .ok (.iload_n 1, 1) := by decide +kernel
theorem d_La_areNames_22 : decode c_La_areNames 22 = .ok (.invokevirtual 29, 3) := by decide +kernel
theorem d_La_areNames_25 : decode c_La_areNames 25 = .ok (.iconst (-1), 1) := by decide +kernel
theorem d_La_areNames_26 : decode c_La_areNames 26 = .ok (.if_icmp .ne 16, 3) := by decide +kernel
theorem d_La_areNames_29 : decode c_La_areNames 29 = .ok (.aload_n 0, 1) := by decide +kernel
theorem d_La_areNames_30 : decode c_La_areNames 30 = .ok (.iconst (-1), 1) := by decide +kernel
theorem d_La_areNames_31 : decode c_La_areNames 31 = .ok (.invokevirtual 29, 3) := by decide +kernel
theorem d_La_areNames_34 : decode c_La_areNames 34 = .ok (.iconst (-1), 1) := by decide +kernel
theorem d_La_areNames_35 : decode c_La_areNames 35 = .ok (.if_icmp .ne 7, 3) := by decide +kernel
theorem d_La_areNames_38 : decode c_La_areNames 38 = .ok (.iconst 1, 1) := by decide +kernel
theorem d_La_areNames_39 : decode c_La_areNames 39 = .ok (.goto 4, 3) := by decide +kernel
theorem d_La_areNames_42 : decode c_La_areNames 42 = .ok (.iconst 0, 1) := by decide +kernel
theorem d_La_areNames_43 : decode c_La_areNames 43 = .ok (.istore 4, 2) := by decide +kernel
theorem d_La_areNames_45 : decode c_La_areNames 45 = .ok (.iconst 0, 1) := by decide +kernel
theorem d_La_areNames_46 : decode c_La_areNames 46 = .ok (.istore 5, 2) := by decide +kernel
theorem d_La_areNames_48 : decode c_La_areNames 48 = .ok (.iload 5, 2) := by decide +kernel
theorem d_La_areNames_50 : decode c_La_areNames 50 = .ok (.iload_n 1, 1) := by decide +kernel
theorem d_La_areNames_51 : decode c_La_areNames 51 = .ok (.if_icmp .ge 199, 3) := by decide +kernel
theorem d_La_areNames_54 : decode c_La_areNames 54 = .ok (.iload 4, 2) := by decide +kernel
theorem d_La_areNames_56 : decode c_La_areNames 56 = .ok (.ifCond .eq 194, 3) := by decide +kernel
theorem d_La_areNames_59 : decode c_La_areNames 59 = .ok (.aload_n 0, 1) := by decide +kernel
theorem d_La_areNames_60 : decode c_La_areNames 60 = .ok (.iload 5, 2) := by decide +kernel
theorem d_La_areNames_62 : decode c_La_areNames 62 = .ok (.iconst 0, 1) := by decide +kernel
theorem d_La_areNames_63 : decode c_La_areNames 63 = .ok (.invokevirtual 26, 3) := by decide +kernel
theorem d_La_areNames_66 : decode c_La_areNames 66 = .ok (.istore 6, 2) := by decide +kernel
theorem d_La_areNames_68 : decode c_La_areNames 68 = .ok (.iconst 0, 1) := by decide +kernel
theorem d_La_areNames_69 : decode c_La_areNames 69 = .ok (.istore 7, 2) := by decide +kernel
theorem d_La_areNames_71 : decode c_La_areNames 71 = .ok (.iconst 0, 1) := by decide +kernel
theorem d_La_areNames_72 : decode c_La_areNames 72 = .ok (.istore 8, 2) := by decide +kernel
theorem d_La_areNames_74 : decode c_La_areNames 74 = .ok (.iload 8, 2) := by decide +kernel
theorem d_La_areNames_76 : decode c_La_areNames 76 = .ok (.iload_n 1, 1) := by decide +kernel
theorem d_La_areNames_77 : decode c_La_areNames 77 = .ok (.if_icmp .ge 43, 3) := by decide +kernel
theorem d_La_areNames_80 : decode c_La_areNames 80 = .ok (.iload 7, 2) := by decide +kernel
theorem d_La_areNames_82 : decode c_La_areNames 82 = .ok (.iload 8, 2) := by decide +kernel
theorem d_La_areNames_84 : decode c_La_areNames 84 = .ok (.iload 5, 2) := by decide +kernel
theorem d_La_areNames_86 : decode c_La_areNames 86 = .ok (.if_icmp .eq 24, 3) := by decide +kernel
theorem d_La_areNames_89 : decode c_La_areNames 89 = .ok (.aload_n 0, 1) := by decide +kernel
theorem d_La_areNames_90 : decode c_La_areNames 90 = .ok (.iload 5, 2) := by decide +kernel
theorem d_La_areNames_92 : decode c_La_areNames 92 = .ok (.iload 8, 2) := by decide +kernel
theorem d_La_areNames_94 : decode c_La_areNames 94 = .ok (.invokevirtual 15, 3) := by decide +kernel
theorem d_La_areNames_97 : decode c_La_areNames 97 = .ok (.aload_n 0, 1) := by decide +kernel
theorem d_La_areNames_98 : decode c_La_areNames 98 = .ok (.bipush 11, 2) := by decide +kernel
theorem d_La_areNames_100 : decode c_La_areNames 100 = .ok (.invokevirtual 22, 3) := by decide +kernel
theorem d_La_areNames_103 : decode c_La_areNames 103 = .ok (.if_icmp .lt 7, 3) := by decide +kernel
theorem d_La_areNames_106 : decode c_La_areNames 106 = .ok (.iconst 1, 1) := by decide +kernel
theorem d_La_areNames_107 : decode c_La_areNames 107 = .ok (.goto 4, 3) := by decide +kernel
theorem d_La_areNames_110 : decode c_La_areNames 110 = .ok (.iconst 0, 1) := by decide +kernel
theorem d_La_areNames_111 : decode c_La_areNames 111 = .ok (.iadd, 1) := by decide +kernel
theorem d_La_areNames_112 : decode c_La_areNames 112 = .ok (.istore 7, 2) := by decide +kernel
theorem d_La_areNames_114 : decode c_La_areNames 114 = .ok (.iinc 8 1, 3) := by decide +kernel
theorem d_La_areNames_117 : decode c_La_areNames 117 = .ok (.goto (-43), 3) := by decide +kernel
theorem d_La_areNames_120 : decode c_La_areNames 120 = .ok (.iload_n 2, 1) := by decide +kernel
theorem d_La_areNames_121 : decode c_La_areNames 121 = .ok (.aload_n 0, 1) := by decide +kernel
theorem d_La_areNames_122 : decode c_La_areNames 122 = .ok (.iload 5, 2) := by decide +kernel
theorem d_La_areNames_124 : decode c_La_areNames 124 = .ok (.iconst 1, 1) := by decide +kernel
theorem d_La_areNames_125 : decode c_La_areNames 125 = .ok (.invokevirtual 26, 3) := by decide +kernel
theorem d_La_areNames_128 : decode c_La_areNames 128 = .ok (.iadd, 1) := by decide +kernel
theorem d_La_areNames_129 : decode c_La_areNames 129 = .ok (.istore_n 2, 1) := by decide +kernel
theorem d_La_areNames_130 : decode c_La_areNames 130 = .ok (.iload_n 3, 1) := by decide +kernel
theorem d_La_areNames_131 : decode c_La_areNames 131 = .ok (.aload_n 0, 1) := by decide +kernel
theorem d_La_areNames_132 : decode c_La_areNames 132 = .ok (.iload 5, 2) := by decide +kernel
theorem d_La_areNames_134 : decode c_La_areNames 134 = .ok (.iconst 3, 1) := by decide +kernel
theorem d_La_areNames_135 : decode c_La_areNames 135 = .ok (.invokevirtual 26, 3) := by decide +kernel
theorem d_La_areNames_138 : decode c_La_areNames 138 = .ok (.iadd, 1) := by decide +kernel
theorem d_La_areNames_139 : decode c_La_areNames 139 = .ok (.istore_n 3, 1) := by decide +kernel
theorem d_La_areNames_140 : decode c_La_areNames 140 = .ok (.iload 6, 2) := by decide +kernel
theorem d_La_areNames_142 : decode c_La_areNames 142 = .ok (.iconst 2, 1) := by decide +kernel
theorem d_La_areNames_143 : decode c_La_areNames 143 = .ok (.if_icmp .lt 98, 3) := by decide +kernel
theorem d_La_areNames_146 : decode c_La_areNames 146 = .ok (.iload 6, 2) := by decide +kernel
theorem d_La_areNames_148 : decode c_La_areNames 148 = .ok (.bipush 6, 2) := by decide +kernel
theorem d_La_areNames_150 : decode c_La_areNames 150 = .ok (.if_icmp .gt 91, 3) := by decide +kernel
theorem d_La_areNames_153 : decode c_La_areNames 153 = .ok (.aload_n 0, 1) := by decide +kernel
theorem d_La_areNames_154 : decode c_La_areNames 154 = .ok (.iload 5, 2) := by decide +kernel
theorem d_La_areNames_156 : decode c_La_areNames 156 = .ok (.iload 6, 2) := by decide +kernel
theorem d_La_areNames_158 : decode c_La_areNames 158 = .ok (.invokevirtual 19, 3) := by decide +kernel
theorem d_La_areNames_161 : decode c_La_areNames 161 = .ok (.iconst (-1), 1) := by decide +kernel
theorem d_La_areNames_162 : decode c_La_areNames 162 = .ok (.if_icmp .ne 79, 3) := by decide +kernel
theorem d_La_areNames_165 : decode c_La_areNames 165 = .ok (.aload_n 0, 1) := by decide +kernel
theorem d_La_areNames_166 : decode c_La_areNames 166 = .ok (.iload 5, 2) := by decide +kernel
theorem d_La_areNames_168 : decode c_La_areNames 168 = .ok (.iload 5, 2) := by decide +kernel
theorem d_La_areNames_170 : decode c_La_areNames 170 = .ok (.invokevirtual 15, 3) := by decide +kernel
theorem d_La_areNames_173 : decode c_La_areNames 173 = .ok (.iload 6, 2) := by decide +kernel
theorem d_La_areNames_175 : decode c_La_areNames 175 = .ok (.if_icmp .ne 66, 3) := by decide +kernel
theorem d_La_areNames_178 : decode c_La_areNames 178 = .ok (.aload_n 0, 1) := by decide +kernel
theorem d_La_areNames_179 : decode c_La_areNames 179 = .ok (.iload 5, 2) := by decide +kernel
theorem d_La_areNames_181 : decode c_La_areNames 181 = .ok (.bipush 6, 2) := by decide +kernel
theorem d_La_areNames_183 : decode c_La_areNames 183 = .ok (.invokevirtual 26, 3) := by decide +kernel
theorem d_La_areNames_186 : decode c_La_areNames 186 = .ok (.iload 7, 2) := by decide +kernel
theorem d_La_areNames_188 : decode c_La_areNames 188 = .ok (.if_icmp .ne 53, 3) := by decide +kernel
theorem d_La_areNames_191 : decode c_La_areNames 191 = .ok (.aload_n 0, 1) := by decide +kernel
theorem d_La_areNames_192 : decode c_La_areNames 192 = .ok (.iload 5, 2) := by decide +kernel
theorem d_La_areNames_194 : decode c_La_areNames 194 = .ok (.iconst 1, 1) := by decide +kernel
theorem d_La_areNames_195 : decode c_La_areNames 195 = .ok (.invokevirtual 26, 3) := by decide +kernel
theorem d_La_areNames_198 : decode c_La_areNames 198 = .ok (.ifCond .eq 13, 3) := by decide +kernel
theorem d_La_areNames_201 : decode c_La_areNames 201 = .ok (.aload_n 0, 1) := by decide +kernel
theorem d_La_areNames_202 : decode c_La_areNames 202 = .ok (.iload 5, 2) := by decide +kernel
theorem d_La_areNames_204 : decode c_La_areNames 204 = .ok (.iconst 2, 1) := by decide +kernel
theorem d_La_areNames_205 : decode c_La_areNames 205 = .ok (.invokevirtual 26, 3) := by decide +kernel
theorem d_La_areNames_208 : decode c_La_areNames 208 = .ok (.ifCond .ne 33, 3) := by decide +kernel
theorem d_La_areNames_211 : decode c_La_areNames 211 = .ok (.iload 5, 2) := by decide +kernel
theorem d_La_areNames_213 : decode c_La_areNames 213 = .ok (.ifCond .eq 24, 3) := by decide +kernel
theorem d_La_areNames_216 : decode c_La_areNames 216 = .ok (.aload_n 0, 1) := by decide +kernel
theorem d_La_areNames_217 : decode c_La_areNames 217 = .ok (.aload_n 0, 1) := by decide +kernel
theorem d_La_areNames_218 : decode c_La_areNames 218 = .ok (.iload 5, 2) := by decide +kernel
theorem d_La_areNames_220 : decode c_La_areNames 220 = .ok (.iconst 1, 1) := by decide +kernel
theorem d_La_areNames_221 : decode c_La_areNames 221 = .ok (.isub, 1) := by decide +kernel
theorem d_La_areNames_222 : decode c_La_areNames 222 = .ok (.invokevirtual 29, 3) := by decide +kernel
theorem d_La_areNames_225 : decode c_La_areNames 225 = .ok (.aload_n 0, 1) := by decide +kernel
theorem d_La_areNames_226 : decode c_La_areNames 226 = .ok (.iload 5, 2) := by decide +kernel
theorem d_La_areNames_228 : decode c_La_areNames 228 = .ok (.invokevirtual 29, 3) := by decide +kernel
theorem d_La_areNames_231 : decode c_La_areNames 231 = .ok (.invokestatic 32, 3) := by decide +kernel
theorem d_La_areNames_234 : decode c_La_areNames 234 = .ok (.ifCond .eq 7, 3) := by decide +kernel
theorem d_La_areNames_237 : decode c_La_areNames 237 = .ok (.iconst 1, 1) := by decide +kernel
theorem d_La_areNames_238 : decode c_La_areNames 238 = .ok (.goto 4, 3) := by decide +kernel
theorem d_La_areNames_241 : decode c_La_areNames 241 = .ok (.iconst 0, 1) := by decide +kernel
theorem d_La_areNames_242 : decode c_La_areNames 242 = .ok (.istore 4, 2) := by decide +kernel
theorem d_La_areNames_244 : decode c_La_areNames 244 = .ok (.iinc 5 1, 3) := by decide +kernel
theorem d_La_areNames_247 : decode c_La_areNames 247 = .ok (.goto (-199), 3) := by decide +kernel
theorem d_La_areNames_250 : decode c_La_areNames 250 = .ok (.iload 4, 2) := by decide +kernel
theorem d_La_areNames_252 : decode c_La_areNames 252 = .ok (.ifCond .eq 25, 3) := by decide +kernel
theorem d_La_areNames_255 : decode c_La_areNames 255 = .ok (.iload_n 2, 1) := by decide +kernel
theorem d_La_areNames_256 : decode c_La_areNames 256 = .ok (.aload_n 0, 1) := by decide +kernel
theorem d_La_areNames_257 : decode c_La_areNames 257 = .ok (.iconst 2, 1) := by decide +kernel
theorem d_La_areNames_258 : decode c_La_areNames 258 = .ok (.invokevirtual 22, 3) := by decide +kernel
theorem d_La_areNames_261 : decode c_La_areNames 261 = .ok (.if_icmp .ne 16, 3) := by decide +kernel
theorem d_La_areNames_264 : decode c_La_areNames 264 = .ok (.iload_n 3, 1) := by decide +kernel
theorem d_La_areNames_265 : decode c_La_areNames 265 = .ok (.aload_n 0, 1) := by decide +kernel
theorem d_La_areNames_266 : decode c_La_areNames 266 = .ok (.iconst 4, 1) := by decide +kernel
theorem d_La_areNames_267 : decode c_La_areNames 267 = .ok (.invokevirtual 22, 3) := by decide +kernel
theorem d_La_areNames_270 : decode c_La_areNames 270 = .ok (.if_icmp .ne 7, 3) := by decide +kernel
theorem d_La_areNames_273 : decode c_La_areNames 273 = .ok (.iconst 1, 1) := by decide +kernel
theorem d_La_areNames_274 : decode c_La_areNames 274 = .ok (.goto 4, 3) := by decide +kernel
theorem d_La_areNames_277 : decode c_La_areNames 277 = .ok (.iconst 0, 1) := by decide +kernel
theorem d_La_areNames_278 : decode c_La_areNames 278 = .ok (.ireturn, 1) := by decide +kernel
