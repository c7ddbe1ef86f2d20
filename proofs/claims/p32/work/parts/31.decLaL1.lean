theorem d_La_areLists_0 : decode c_La_areLists 0 = .ok (.iconst 1, 1) := by decide +kernel
theorem d_La_areLists_1 : decode c_La_areLists 1 = .ok (.istore_n 1, 1) := by decide +kernel
theorem d_La_areLists_2 : decode c_La_areLists 2 = .ok (.iconst 0, 1) := by decide +kernel
theorem d_La_areLists_3 : decode c_La_areLists 3 = .ok (.istore_n 2, 1) := by decide +kernel
theorem d_La_areLists_4 : decode c_La_areLists 4 = .ok (.iconst 0, 1) := by decide +kernel
theorem d_La_areLists_5 : decode c_La_areLists 5 = .ok (.istore_n 3, 1) := by decide +kernel
theorem d_La_areLists_6 : decode c_La_areLists 6 = .ok (.iload_n 3, 1) := by decide +kernel
theorem d_La_areLists_7 : decode c_La_areLists 7 = .ok (.iconst 2, 1) := by decide +kernel
theorem d_La_areLists_8 : decode c_La_areLists 8 = .ok (.if_icmp .ge 357, 3) := by decide +kernel
theorem d_La_areLists_11 : decode c_La_areLists 11 = .ok (.iload_n 1, 1) := by decide +kernel
theorem d_La_areLists_12 : decode c_La_areLists 12 = .ok (.ifCond .eq 353, 3) := by decide +kernel
theorem d_La_areLists_15 : decode c_La_areLists 15 = .ok (.bipush (-6), 2) := by decide +kernel
theorem d_La_areLists_17 : decode c_La_areLists 17 = .ok (.istore 4, 2) := by decide +kernel
theorem d_La_areLists_19 : decode c_La_areLists 19 = .ok (.iconst 0, 1) := by decide +kernel
theorem d_La_areLists_20 : decode c_La_areLists 20 = .ok (.istore 5, 2) := by decide +kernel
theorem d_La_areLists_22 : decode c_La_areLists 22 = .ok (.iconst 0, 1) := by decide +kernel
theorem d_La_areLists_23 : decode c_La_areLists 23 = .ok (.istore 6, 2) := by decide +kernel
theorem d_La_areLists_25 : decode c_La_areLists 25 = .ok (.iconst 0, 1) := by decide +kernel
theorem d_La_areLists_26 : decode c_La_areLists 26 = .ok (.istore 7, 2) := by decide +kernel
theorem d_La_areLists_28 : decode c_La_areLists 28 = .ok (.iload 7, 2) := by decide +kernel
theorem d_La_areLists_30 : decode c_La_areLists 30 = .ok (.iconst 3, 1) := by decide +kernel
theorem d_La_areLists_31 : decode c_La_areLists 31 = .ok (.if_icmp .ge 257, 3) := by decide +kernel
theorem d_La_areLists_34 : decode c_La_areLists 34 = .ok (.iload_n 1, 1) := by decide +kernel
theorem d_La_areLists_35 : decode c_La_areLists 35 = .ok (.ifCond .eq 253, 3) := by decide +kernel
theorem d_La_areLists_38 : decode c_La_areLists 38 = .ok (.iconst 0, 1) := by decide +kernel
theorem d_La_areLists_39 : decode c_La_areLists 39 = .ok (.istore 8, 2) := by decide +kernel
theorem d_La_areLists_41 : decode c_La_areLists 41 = .ok (.iload 8, 2) := by decide +kernel
theorem d_La_areLists_43 : decode c_La_areLists 43 = .ok (.bipush 9, 2) := by decide +kernel
theorem d_La_areLists_45 : decode c_La_areLists 45 = .ok (.if_icmp .ge 187, 3) := by decide +kernel
theorem d_La_areLists_48 : decode c_La_areLists 48 = .ok (.aload_n 0, 1) := by decide +kernel
theorem d_La_areLists_49 : decode c_La_areLists 49 = .ok (.iload_n 3, 1) := by decide +kernel
theorem d_La_areLists_50 : decode c_La_areLists 50 = .ok (.iload 7, 2) := by decide +kernel
theorem d_La_areLists_52 : decode c_La_areLists 52 = .ok (.iload 8, 2) := by decide +kernel
theorem d_La_areLists_54 : decode c_La_areLists 54 = .ok (.invokevirtual 38, 3) := by decide +kernel
theorem d_La_areLists_57 : decode c_La_areLists 57 = .ok (.ifCond .lt 175, 3) := by decide +kernel
theorem d_La_areLists_60 : decode c_La_areLists 60 = .ok (.aload_n 0, 1) := by decide +kernel
theorem d_La_areLists_61 : decode c_La_areLists 61 = .ok (.iload_n 3, 1) := by decide +kernel
theorem d_La_areLists_62 : decode c_La_areLists 62 = .ok (.iload 7, 2) := by decide +kernel
theorem d_La_areLists_64 : decode c_La_areLists 64 = .ok (.iload 8, 2) := by decide +kernel
theorem d_La_areLists_66 : decode c_La_areLists 66 = .ok (.invokevirtual 38, 3) := by decide +kernel
theorem d_La_areLists_69 : decode c_La_areLists 69 = .ok (.istore 9, 2) := by decide +kernel
theorem d_La_areLists_71 : decode c_La_areLists 71 = .ok (.iconst 0, 1) := by decide +kernel
theorem d_La_areLists_72 : decode c_La_areLists 72 = .ok (.istore 10, 2) := by decide +kernel
theorem d_La_areLists_74 : decode c_La_areLists 74 = .ok (.iconst 0, 1) := by decide +kernel
theorem d_La_areLists_75 : decode c_La_areLists 75 = .ok (.istore 11, 2) := by decide +kernel
theorem d_La_areLists_77 : decode c_La_areLists 77 = .ok (.iload 11, 2) := by decide +kernel
theorem d_La_areLists_79 : decode c_La_areLists 79 = .ok (.aload_n 0, 1) := by decide +kernel
theorem d_La_areLists_80 : decode c_La_areLists 80 = .ok (.iconst 3, 1) := by decide +kernel
theorem d_La_areLists_81 : decode c_La_areLists 81 = .ok (.invokevirtual 22, 3) := by decide +kernel
theorem d_La_areLists_84 : decode c_La_areLists 84 = .ok (.if_icmp .ge 44, 3) := by decide +kernel
theorem d_La_areLists_87 : decode c_La_areLists 87 = .ok (.iload 10, 2) := by decide +kernel
theorem d_La_areLists_89 : decode c_La_areLists 89 = .ok (.ifCond .ne 26, 3) := by decide +kernel
theorem d_La_areLists_92 : decode c_La_areLists 92 = .ok (.aload_n 0, 1) := by decide +kernel
theorem d_La_areLists_93 : decode c_La_areLists 93 = .ok (.iload 11, 2) := by decide +kernel
theorem d_La_areLists_95 : decode c_La_areLists 95 = .ok (.iconst 0, 1) := by decide +kernel
theorem d_La_areLists_96 : decode c_La_areLists 96 = .ok (.invokevirtual 42, 3) := by decide +kernel
theorem d_La_areLists_99 : decode c_La_areLists 99 = .ok (.iload 9, 2) := by decide +kernel
theorem d_La_areLists_101 : decode c_La_areLists 101 = .ok (.if_icmp .ne 18, 3) := by decide +kernel
theorem d_La_areLists_104 : decode c_La_areLists 104 = .ok (.aload_n 0, 1) := by decide +kernel
theorem d_La_areLists_105 : decode c_La_areLists 105 = .ok (.iload 11, 2) := by decide +kernel
theorem d_La_areLists_107 : decode c_La_areLists 107 = .ok (.iconst 1, 1) := by decide +kernel
theorem d_La_areLists_108 : decode c_La_areLists 108 = .ok (.invokevirtual 42, 3) := by decide +kernel
theorem d_La_areLists_111 : decode c_La_areLists 111 = .ok (.iload_n 3, 1) := by decide +kernel
theorem d_La_areLists_112 : decode c_La_areLists 112 = .ok (.if_icmp .ne 7, 3) := by decide +kernel
theorem d_La_areLists_115 : decode c_La_areLists 115 = .ok (.iconst 1, 1) := by decide +kernel
theorem d_La_areLists_116 : decode c_La_areLists 116 = .ok (.goto 4, 3) := by decide +kernel
theorem d_La_areLists_119 : decode c_La_areLists 119 = .ok (.iconst 0, 1) := by decide +kernel
theorem d_La_areLists_120 : decode c_La_areLists 120 = .ok (.istore 10, 2) := by decide +kernel
theorem d_La_areLists_122 : decode c_La_areLists 122 = .ok (.iinc 11 1, 3) := by decide +kernel
theorem d_La_areLists_125 : decode c_La_areLists 125 = .ok (.goto (-48), 3) := by decide +kernel
theorem d_La_areLists_128 : decode c_La_areLists 128 = .ok (.iload 7, 2) := by decide +kernel
theorem d_La_areLists_130 : decode c_La_areLists 130 = .ok (.aload_n 0, 1) := by decide +kernel
theorem d_La_areLists_131 : decode c_La_areLists 131 = .ok (.iconst 0, 1) := by decide +kernel
theorem d_La_areLists_132 : decode c_La_areLists 132 = .ok (.invokevirtual 22, 3) := by decide +kernel
theorem d_La_areLists_135 : decode c_La_areLists 135 = .ok (.iconst 3, 1) := by decide +kernel
theorem d_La_areLists_136 : decode c_La_areLists 136 = .ok (.irem, 1) := by decide +kernel
theorem d_La_areLists_137 : decode c_La_areLists 137 = .ok (.if_icmp .ne 12, 3) := by decide +kernel
theorem d_La_areLists_140 : decode c_La_areLists 140 = .ok (.iload 10, 2) := by decide +kernel
theorem d_La_areLists_142 : decode c_La_areLists 142 = .ok (.ifCond .ne 7, 3) := by decide +kernel
theorem d_La_areLists_145 : decode c_La_areLists 145 = .ok (.iconst 1, 1) := by decide +kernel
theorem d_La_areLists_146 : decode c_La_areLists 146 = .ok (.goto 4, 3) := by decide +kernel
theorem d_La_areLists_149 : decode c_La_areLists 149 = .ok (.iconst 0, 1) := by decide +kernel
theorem d_La_areLists_150 : decode c_La_areLists 150 = .ok (.istore 11, 2) := by decide +kernel
theorem d_La_areLists_152 : decode c_La_areLists 152 = .ok (.iload 4, 2) := by decide +kernel
theorem d_La_areLists_154 : decode c_La_areLists 154 = .ok (.bipush (-6), 2) := by decide +kernel
theorem d_La_areLists_156 : decode c_La_areLists 156 = .ok (.if_icmp .ne 13, 3) := by decide +kernel
theorem d_La_areLists_159 : decode c_La_areLists 159 = .ok (.iload 11, 2) := by decide +kernel
theorem d_La_areLists_161 : decode c_La_areLists 161 = .ok (.ifCond .eq 8, 3) := by decide +kernel
theorem d_La_areLists_164 : decode c_La_areLists 164 = .ok (.iload 9, 2) := by decide +kernel
theorem d_La_areLists_166 : decode c_La_areLists 166 = .ok (.goto 5, 3) := by decide +kernel
theorem d_La_areLists_169 : decode c_La_areLists 169 = .ok (.iload 4, 2) := by decide +kernel
theorem d_La_areLists_171 : decode c_La_areLists 171 = .ok (.istore 4, 2) := by decide +kernel
theorem d_La_areLists_173 : decode c_La_areLists 173 = .ok (.iload 5, 2) := by decide +kernel
theorem d_La_areLists_175 : decode c_La_areLists 175 = .ok (.iload 11, 2) := by decide +kernel
theorem d_La_areLists_177 : decode c_La_areLists 177 = .ok (.ifCond .eq 7, 3) := by decide +kernel
theorem d_La_areLists_180 : decode c_La_areLists 180 = .ok (.iconst 1, 1) := by decide +kernel
theorem d_La_areLists_181 : decode c_La_areLists 181 = .ok (.goto 4, 3) := by decide +kernel
theorem d_La_areLists_184 : decode c_La_areLists 184 = .ok (.iconst 0, 1) := by decide +kernel
theorem d_La_areLists_185 : decode c_La_areLists 185 = .ok (.iadd, 1) := by decide +kernel
theorem d_La_areLists_186 : decode c_La_areLists 186 = .ok (.istore 5, 2) := by decide +kernel
theorem d_La_areLists_188 : decode c_La_areLists 188 = .ok (.iinc 6 1, 3) := by decide +kernel
theorem d_La_areLists_191 : decode c_La_areLists 191 = .ok (.iinc 8 1, 3) := by decide +kernel
theorem d_La_areLists_194 : decode c_La_areLists 194 = .ok (.iload_n 1, 1) := by decide +kernel
theorem d_La_areLists_195 : decode c_La_areLists 195 = .ok (.ifCond .eq 32, 3) := by decide +kernel
theorem d_La_areLists_198 : decode c_La_areLists 198 = .ok (.aload_n 0, 1) := by decide +kernel
theorem d_La_areLists_199 : decode c_La_areLists 199 = .ok (.iload 9, 2) := by decide +kernel
theorem d_La_areLists_201 : decode c_La_areLists 201 = .ok (.iconst 2, 1) := by decide +kernel
theorem d_La_areLists_202 : decode c_La_areLists 202 = .ok (.invokevirtual 26, 3) := by decide +kernel
theorem d_La_areLists_205 : decode c_La_areLists 205 = .ok (.iload_n 3, 1) := by decide +kernel
theorem d_La_areLists_206 : decode c_La_areLists 206 = .ok (.ishr, 1) := by decide +kernel
theorem d_La_areLists_207 : decode c_La_areLists 207 = .ok (.iconst 1, 1) := by decide +kernel
theorem d_La_areLists_208 : decode c_La_areLists 208 = .ok (.iand, 1) := by decide +kernel
theorem d_La_areLists_209 : decode c_La_areLists 209 = .ok (.iconst 1, 1) := by decide +kernel
theorem d_La_areLists_210 : decode c_La_areLists 210 = .ok (.if_icmp .ne 17, 3) := by decide +kernel
theorem d_La_areLists_213 : decode c_La_areLists 213 = .ok (.aload_n 0, 1) := by decide +kernel
theorem d_La_areLists_214 : decode c_La_areLists 214 = .ok (.iload 9, 2) := by decide +kernel
theorem d_La_areLists_216 : decode c_La_areLists 216 = .ok (.iconst 1, 1) := by decide +kernel
theorem d_La_areLists_217 : decode c_La_areLists 217 = .ok (.invokevirtual 26, 3) := by decide +kernel
theorem d_La_areLists_220 : decode c_La_areLists 220 = .ok (.ifCond .ne 7, 3) := by decide +kernel
theorem d_La_areLists_223 : decode c_La_areLists 223 = .ok (.iconst 1, 1) := by decide +kernel
theorem d_La_areLists_224 : decode c_La_areLists 224 = .ok (.goto 4, 3) := by decide +kernel
theorem d_La_areLists_227 : decode c_La_areLists 227 = .ok (.iconst 0, 1) := by decide +kernel
theorem d_La_areLists_228 : decode c_La_areLists 228 = .ok (.istore_n 1, 1) := by decide +kernel
theorem d_La_areLists_229 : decode c_La_areLists 229 = .ok (.goto (-188), 3) := by decide +kernel
theorem d_La_areLists_232 : decode c_La_areLists 232 = .ok (.iload 7, 2) := by decide +kernel
theorem d_La_areLists_234 : decode c_La_areLists 234 = .ok (.iconst 3, 1) := by decide +kernel
theorem d_La_areLists_235 : decode c_La_areLists 235 = .ok (.iadd, 1) := by decide +kernel
theorem d_La_areLists_236 : decode c_La_areLists 236 = .ok (.aload_n 0, 1) := by decide +kernel
theorem d_La_areLists_237 : decode c_La_areLists 237 = .ok (.iconst 0, 1) := by decide +kernel
theorem d_La_areLists_238 : decode c_La_areLists 238 = .ok (.invokevirtual 22, 3) := by decide +kernel
theorem d_La_areLists_241 : decode c_La_areLists 241 = .ok (.iconst 3, 1) := by decide +kernel
theorem d_La_areLists_242 : decode c_La_areLists 242 = .ok (.irem, 1) := by decide +kernel
theorem d_La_areLists_243 : decode c_La_areLists 243 = .ok (.isub, 1) := by decide +kernel
theorem d_La_areLists_244 : decode c_La_areLists 244 = .ok (.iconst 3, 1) := by decide +kernel
theorem d_La_areLists_245 : decode c_La_areLists 245 = .ok (.irem, 1) := by decide +kernel
theorem d_La_areLists_246 : decode c_La_areLists 246 = .ok (.istore 9, 2) := by decide +kernel
theorem d_La_areLists_248 : decode c_La_areLists 248 = .ok (.iload_n 1, 1) := by decide +kernel
theorem d_La_areLists_249 : decode c_La_areLists 249 = .ok (.ifCond .eq 31, 3) := by decide +kernel
theorem d_La_areLists_252 : decode c_La_areLists 252 = .ok (.iload 8, 2) := by decide +kernel
theorem d_La_areLists_254 : decode c_La_areLists 254 = .ok (.bipush 8, 2) := by decide +kernel
