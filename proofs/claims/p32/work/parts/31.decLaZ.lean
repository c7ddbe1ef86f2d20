theorem d_La_law_0 : decode code 0 = .ok (.new 10, 3) := by decide +kernel
theorem d_La_law_3 : decode code 3 = .ok (.dup, 1) := by decide +kernel
theorem d_La_law_4 : decode code 4 = .ok (.invokespecial 106, 3) := by decide +kernel
theorem d_La_law_7 : decode code 7 = .ok (.astore_n 1, 1) := by decide +kernel
theorem d_La_law_8 : decode code 8 = .ok (.aload_n 1, 1) := by decide +kernel
theorem d_La_law_9 : decode code 9 = .ok (.invokevirtual 107, 3) := by decide +kernel
theorem d_La_law_12 : decode code 12 = .ok (.bipush (-5), 2) := by decide +kernel
theorem d_La_law_14 : decode code 14 = .ok (.if_icmp .ne 66, 3) := by decide +kernel
theorem d_La_law_17 : decode code 17 = .ok (.aload_n 1, 1) := by decide +kernel
theorem d_La_law_18 : decode code 18 = .ok (.iconst 0, 1) := by decide +kernel
theorem d_La_law_19 : decode code 19 = .ok (.invokevirtual 110, 3) := by decide +kernel
theorem d_La_law_22 : decode code 22 = .ok (.bipush (-5), 2) := by decide +kernel
theorem d_La_law_24 : decode code 24 = .ok (.if_icmp .ne 56, 3) := by decide +kernel
theorem d_La_law_27 : decode code 27 = .ok (.aload_n 1, 1) := by decide +kernel
theorem d_La_law_28 : decode code 28 = .ok (.iconst 0, 1) := by decide +kernel
theorem d_La_law_29 : decode code 29 = .ok (.invokevirtual 70, 3) := by decide +kernel
theorem d_La_law_32 : decode code 32 = .ok (.bipush (-5), 2) := by decide +kernel
theorem d_La_law_34 : decode code 34 = .ok (.if_icmp .ne 46, 3) := by decide +kernel
theorem d_La_law_37 : decode code 37 = .ok (.aload_n 1, 1) := by decide +kernel
theorem d_La_law_38 : decode code 38 = .ok (.iconst 0, 1) := by decide +kernel
theorem d_La_law_39 : decode code 39 = .ok (.iconst 0, 1) := by decide +kernel
theorem d_La_law_40 : decode code 40 = .ok (.invokevirtual 64, 3) := by decide +kernel
theorem d_La_law_43 : decode code 43 = .ok (.bipush (-3), 2) := by decide +kernel
theorem d_La_law_45 : decode code 45 = .ok (.if_icmp .ne 35, 3) := by decide +kernel
theorem d_La_law_48 : decode code 48 = .ok (.aload_n 1, 1) := by decide +kernel
theorem d_La_law_49 : decode code 49 = .ok (.invokevirtual 82, 3) := by decide +kernel
theorem d_La_law_52 : decode code 52 = .ok (.bipush (-3), 2) := by decide +kernel
theorem d_La_law_54 : decode code 54 = .ok (.if_icmp .ne 26, 3) := by decide +kernel
theorem d_La_law_57 : decode code 57 = .ok (.aload_n 1, 1) := by decide +kernel
theorem d_La_law_58 : decode code 58 = .ok (.iconst 1, 1) := by decide +kernel
theorem d_La_law_59 : decode code 59 = .ok (.invokevirtual 48, 3) := by decide +kernel
theorem d_La_law_62 : decode code 62 = .ok (.bipush (-6), 2) := by decide +kernel
theorem d_La_law_64 : decode code 64 = .ok (.if_icmp .ne 16, 3) := by decide +kernel
theorem d_La_law_67 : decode code 67 = .ok (.aload_n 1, 1) := by decide +kernel
theorem d_La_law_68 : decode code 68 = .ok (.iconst 0, 1) := by decide +kernel
theorem d_La_law_69 : decode code 69 = .ok (.iconst 0, 1) := by decide +kernel
theorem d_La_law_70 : decode code 70 = .ok (.invokevirtual 45, 3) := by decide +kernel
theorem d_La_law_73 : decode code 73 = .ok (.ifCond .ne 7, 3) := by decide +kernel
theorem d_La_law_76 : decode code 76 = .ok (.iconst 1, 1) := by decide +kernel
theorem d_La_law_77 : decode code 77 = .ok (.goto 4, 3) := by decide +kernel
theorem d_La_law_80 : decode code 80 = .ok (.iconst 0, 1) := by decide +kernel
theorem d_La_law_81 : decode code 81 = .ok (.istore_n 2, 1) := by decide +kernel
theorem d_La_law_82 : decode code 82 = .ok (.iconst 0, 1) := by decide +kernel
theorem d_La_law_83 : decode code 83 = .ok (.istore_n 3, 1) := by decide +kernel
theorem d_La_law_84 : decode code 84 = .ok (.iload_n 3, 1) := by decide +kernel
theorem d_La_law_85 : decode code 85 = .ok (.bipush 44, 2) := by decide +kernel
theorem d_La_law_87 : decode code 87 = .ok (.if_icmp .ge 52, 3) := by decide +kernel
theorem d_La_law_90 : decode code 90 = .ok (.iload_n 2, 1) := by decide +kernel
theorem d_La_law_91 : decode code 91 = .ok (.ifCond .eq 48, 3) := by decide +kernel
theorem d_La_law_94 : decode code 94 = .ok (.aload_n 1, 1) := by decide +kernel
theorem d_La_law_95 : decode code 95 = .ok (.aload_n 0, 1) := by decide +kernel
theorem d_La_law_96 : decode code 96 = .ok (.iload_n 3, 1) := by decide +kernel
theorem d_La_law_97 : decode code 97 = .ok (.invokestatic 113, 3) := by decide +kernel
theorem d_La_law_100 : decode code 100 = .ok (.invokestatic 117, 3) := by decide +kernel
theorem d_La_law_103 : decode code 103 = .ok (.ifCond .eq 28, 3) := by decide +kernel
theorem d_La_law_106 : decode code 106 = .ok (.iload_n 3, 1) := by decide +kernel
theorem d_La_law_107 : decode code 107 = .ok (.bipush 11, 2) := by decide +kernel
theorem d_La_law_109 : decode code 109 = .ok (.irem, 1) := by decide +kernel
theorem d_La_law_110 : decode code 110 = .ok (.ifCond .gt 17, 3) := by decide +kernel
theorem d_La_law_113 : decode code 113 = .ok (.aload_n 1, 1) := by decide +kernel
theorem d_La_law_114 : decode code 114 = .ok (.invokestatic 120, 3) := by decide +kernel
theorem d_La_law_117 : decode code 117 = .ok (.ifCond .eq 14, 3) := by decide +kernel
theorem d_La_law_120 : decode code 120 = .ok (.aload_n 1, 1) := by decide +kernel
theorem d_La_law_121 : decode code 121 = .ok (.invokestatic 124, 3) := by decide +kernel
theorem d_La_law_124 : decode code 124 = .ok (.ifCond .eq 7, 3) := by decide +kernel
theorem d_La_law_127 : decode code 127 = .ok (.iconst 1, 1) := by decide +kernel
theorem d_La_law_128 : decode code 128 = .ok (.goto 4, 3) := by decide +kernel
theorem d_La_law_131 : decode code 131 = .ok (.iconst 0, 1) := by decide +kernel
theorem d_La_law_132 : decode code 132 = .ok (.istore_n 2, 1) := by decide +kernel
theorem d_La_law_133 : decode code 133 = .ok (.iinc 3 1, 3) := by decide +kernel
theorem d_La_law_136 : decode code 136 = .ok (.goto (-52), 3) := by decide +kernel
theorem d_La_law_139 : decode code 139 = .ok (.aload_n 1, 1) := by decide +kernel
theorem d_La_law_140 : decode code 140 = .ok (.iconst 1, 1) := by decide +kernel
theorem d_La_law_141 : decode code 141 = .ok (.invokevirtual 127, 3) := by decide +kernel
theorem d_La_law_144 : decode code 144 = .ok (.istore_n 3, 1) := by decide +kernel
theorem d_La_law_145 : decode code 145 = .ok (.aload_n 1, 1) := by decide +kernel
theorem d_La_law_146 : decode code 146 = .ok (.iconst 4, 1) := by decide +kernel
theorem d_La_law_147 : decode code 147 = .ok (.invokevirtual 22, 3) := by decide +kernel
theorem d_La_law_150 : decode code 150 = .ok (.istore 4, 2) := by decide +kernel
theorem d_La_law_152 : decode code 152 = .ok (.iload_n 2, 1) := by decide +kernel
theorem d_La_law_153 : decode code 153 = .ok (.ifCond .eq 76, 3) := by decide +kernel
theorem d_La_law_156 : decode code 156 = .ok (.iload_n 3, 1) := by decide +kernel
theorem d_La_law_157 : decode code 157 = .ok (.aload_n 1, 1) := by decide +kernel
theorem d_La_law_158 : decode code 158 = .ok (.iconst 1, 1) := by decide +kernel
theorem d_La_law_159 : decode code 159 = .ok (.invokevirtual 22, 3) := by decide +kernel
theorem d_La_law_162 : decode code 162 = .ok (.if_icmp .ne 67, 3) := by decide +kernel
theorem d_La_law_165 : decode code 165 = .ok (.aload_n 1, 1) := by decide +kernel
theorem d_La_law_166 : decode code 166 = .ok (.invokestatic 130, 3) := by decide +kernel
theorem d_La_law_169 : decode code 169 = .ok (.ifCond .eq 60, 3) := by decide +kernel
theorem d_La_law_172 : decode code 172 = .ok (.aload_n 1, 1) := by decide +kernel
theorem d_La_law_173 : decode code 173 = .ok (.invokestatic 120, 3) := by decide +kernel
theorem d_La_law_176 : decode code 176 = .ok (.ifCond .eq 53, 3) := by decide +kernel
theorem d_La_law_179 : decode code 179 = .ok (.aload_n 1, 1) := by decide +kernel
theorem d_La_law_180 : decode code 180 = .ok (.invokestatic 124, 3) := by decide +kernel
theorem d_La_law_183 : decode code 183 = .ok (.ifCond .eq 46, 3) := by decide +kernel
theorem d_La_law_186 : decode code 186 = .ok (.aload_n 1, 1) := by decide +kernel
theorem d_La_law_187 : decode code 187 = .ok (.iconst 0, 1) := by decide +kernel
theorem d_La_law_188 : decode code 188 = .ok (.iconst 0, 1) := by decide +kernel
theorem d_La_law_189 : decode code 189 = .ok (.invokestatic 133, 3) := by decide +kernel
theorem d_La_law_192 : decode code 192 = .ok (.ifCond .eq 37, 3) := by decide +kernel
theorem d_La_law_195 : decode code 195 = .ok (.aload_n 1, 1) := by decide +kernel
theorem d_La_law_196 : decode code 196 = .ok (.iconst 1, 1) := by decide +kernel
theorem d_La_law_197 : decode code 197 = .ok (.iconst 2, 1) := by decide +kernel
theorem d_La_law_198 : decode code 198 = .ok (.invokestatic 133, 3) := by decide +kernel
theorem d_La_law_201 : decode code 201 = .ok (.ifCond .eq 28, 3) := by decide +kernel
theorem d_La_law_204 : decode code 204 = .ok (.aload_n 1, 1) := by decide +kernel
theorem d_La_law_205 : decode code 205 = .ok (.invokevirtual 79, 3) := by decide +kernel
theorem d_La_law_208 : decode code 208 = .ok (.ifCond .lt 21, 3) := by decide +kernel
theorem d_La_law_211 : decode code 211 = .ok (.aload_n 1, 1) := by decide +kernel
theorem d_La_law_212 : decode code 212 = .ok (.invokestatic 120, 3) := by decide +kernel
theorem d_La_law_215 : decode code 215 = .ok (.ifCond .eq 14, 3) := by decide +kernel
theorem d_La_law_218 : decode code 218 = .ok (.aload_n 1, 1) := by decide +kernel
theorem d_La_law_219 : decode code 219 = .ok (.invokestatic 130, 3) := by decide +kernel
theorem d_La_law_222 : decode code 222 = .ok (.ifCond .eq 7, 3) := by decide +kernel
theorem d_La_law_225 : decode code 225 = .ok (.iconst 1, 1) := by decide +kernel
theorem d_La_law_226 : decode code 226 = .ok (.goto 4, 3) := by decide +kernel
theorem d_La_law_229 : decode code 229 = .ok (.iconst 0, 1) := by decide +kernel
theorem d_La_law_230 : decode code 230 = .ok (.istore_n 2, 1) := by decide +kernel
theorem d_La_law_231 : decode code 231 = .ok (.iload_n 2, 1) := by decide +kernel
theorem d_La_law_232 : decode code 232 = .ok (.ifCond .eq 41, 3) := by decide +kernel
theorem d_La_law_235 : decode code 235 = .ok (.aload_n 1, 1) := by decide +kernel
theorem d_La_law_236 : decode code 236 = .ok (.iconst 1, 1) := by decide +kernel
theorem d_La_law_237 : decode code 237 = .ok (.invokevirtual 110, 3) := by decide +kernel
theorem d_La_law_240 : decode code 240 = .ok (.iload_n 3, 1) := by decide +kernel
theorem d_La_law_241 : decode code 241 = .ok (.if_icmp .ne 32, 3) := by decide +kernel
theorem d_La_law_244 : decode code 244 = .ok (.aload_n 1, 1) := by decide +kernel
theorem d_La_law_245 : decode code 245 = .ok (.iconst 4, 1) := by decide +kernel
theorem d_La_law_246 : decode code 246 = .ok (.invokevirtual 22, 3) := by decide +kernel
theorem d_La_law_249 : decode code 249 = .ok (.iload 4, 2) := by decide +kernel
theorem d_La_law_251 : decode code 251 = .ok (.if_icmp .ne 22, 3) := by decide +kernel
theorem d_La_law_254 : decode code 254 = .ok (.aload_n 1, 1) := by decide +kernel
theorem d_La_law_255 : decode code 255 = .ok (.invokevirtual 107, 3) := by decide +kernel
theorem d_La_law_258 : decode code 258 = .ok (.ifCond .lt 15, 3) := by decide +kernel
theorem d_La_law_261 : decode code 261 = .ok (.aload_n 1, 1) := by decide +kernel
theorem d_La_law_262 : decode code 262 = .ok (.iconst 3, 1) := by decide +kernel
theorem d_La_law_263 : decode code 263 = .ok (.invokevirtual 22, 3) := by decide +kernel
theorem d_La_law_266 : decode code 266 = .ok (.ifCond .ne 7, 3) := by decide +kernel
theorem d_La_law_269 : decode code 269 = .ok (.iconst 1, 1) := by decide +kernel
theorem d_La_law_270 : decode code 270 = .ok (.goto 4, 3) := by decide +kernel
theorem d_La_law_273 : decode code 273 = .ok (.iconst 0, 1) := by decide +kernel
theorem d_La_law_274 : decode code 274 = .ok (.ireturn, 1) := by decide +kernel
