theorem d_La_isWritten_0 : decode c_La_isWritten 0 = .ok (.aload_n 0, 1) := by decide +kernel
theorem d_La_isWritten_1 : decode c_La_isWritten 1 = .ok (.iload_n 1, 1) := by decide +kernel
theorem d_La_isWritten_2 : decode c_La_isWritten 2 = .ok (.iload_n 2, 1) := by decide +kernel
theorem d_La_isWritten_3 : decode c_La_isWritten 3 = .ok (.invokevirtual 91, 3) := by decide +kernel
theorem d_La_isWritten_6 : decode c_La_isWritten 6 = .ok (.istore_n 3, 1) := by decide +kernel
theorem d_La_isWritten_7 : decode c_La_isWritten 7 = .ok (.iconst 0, 1) := by decide +kernel
theorem d_La_isWritten_8 : decode c_La_isWritten 8 = .ok (.istore 4, 2) := by decide +kernel
theorem d_La_isWritten_10 : decode c_La_isWritten 10 = .ok (.iconst 0, 1) := by decide +kernel
theorem d_La_isWritten_11 : decode c_La_isWritten 11 = .ok (.istore 5, 2) := by decide +kernel
theorem d_La_isWritten_13 : decode c_La_isWritten 13 = .ok (.iload_n 3, 1) := by decide +kernel
theorem d_La_isWritten_14 : decode c_La_isWritten 14 = .ok (.aload_n 0, 1) := by decide +kernel
theorem d_La_isWritten_15 : decode c_La_isWritten 15 = .ok (.bipush 12, 2) := by decide +kernel
theorem d_La_isWritten_17 : decode c_La_isWritten 17 = .ok (.invokevirtual 22, 3) := by decide +kernel
theorem d_La_isWritten_20 : decode c_La_isWritten 20 = .ok (.if_icmp .ne 7, 3) := by decide +kernel
theorem d_La_isWritten_23 : decode c_La_isWritten 23 = .ok (.iconst 1, 1) := by decide +kernel
theorem d_La_isWritten_24 : decode c_La_isWritten 24 = .ok (.goto 4, 3) := by decide +kernel
theorem d_La_isWritten_27 : decode c_La_isWritten 27 = .ok (.iconst 0, 1) := by decide +kernel
theorem d_La_isWritten_28 : decode c_La_isWritten 28 = .ok (.istore 6, 2) := by decide +kernel
theorem d_La_isWritten_30 : decode c_La_isWritten 30 = .ok (.iload 6, 2) := by decide +kernel
theorem d_La_isWritten_32 : decode c_La_isWritten 32 = .ok (.ifCond .eq 121, 3) := by decide +kernel
theorem d_La_isWritten_35 : decode c_La_isWritten 35 = .ok (.aload_n 0, 1) := by decide +kernel
theorem d_La_isWritten_36 : decode c_La_isWritten 36 = .ok (.iload_n 1, 1) := by decide +kernel
theorem d_La_isWritten_37 : decode c_La_isWritten 37 = .ok (.iload_n 2, 1) := by decide +kernel
theorem d_La_isWritten_38 : decode c_La_isWritten 38 = .ok (.iload 5, 2) := by decide +kernel
theorem d_La_isWritten_40 : decode c_La_isWritten 40 = .ok (.invokevirtual 38, 3) := by decide +kernel
theorem d_La_isWritten_43 : decode c_La_isWritten 43 = .ok (.ifCond .lt 110, 3) := by decide +kernel
theorem d_La_isWritten_46 : decode c_La_isWritten 46 = .ok (.aload_n 0, 1) := by decide +kernel
theorem d_La_isWritten_47 : decode c_La_isWritten 47 = .ok (.iload_n 1, 1) := by decide +kernel
theorem d_La_isWritten_48 : decode c_La_isWritten 48 = .ok (.iload_n 2, 1) := by decide +kernel
theorem d_La_isWritten_49 : decode c_La_isWritten 49 = .ok (.iload 5, 2) := by decide +kernel
theorem d_La_isWritten_51 : decode c_La_isWritten 51 = .ok (.invokevirtual 38, 3) := by decide +kernel
theorem d_La_isWritten_54 : decode c_La_isWritten 54 = .ok (.istore 7, 2) := by decide +kernel
theorem d_La_isWritten_56 : decode c_La_isWritten 56 = .ok (.iload 5, 2) := by decide +kernel
theorem d_La_isWritten_58 : decode c_La_isWritten 58 = .ok (.ifCond .eq 14, 3) := by decide +kernel
theorem d_La_isWritten_61 : decode c_La_isWritten 61 = .ok (.aload_n 0, 1) := by decide +kernel
theorem d_La_isWritten_62 : decode c_La_isWritten 62 = .ok (.iload 4, 2) := by decide +kernel
theorem d_La_isWritten_64 : decode c_La_isWritten 64 = .ok (.invokevirtual 94, 3) := by decide +kernel
theorem d_La_isWritten_67 : decode c_La_isWritten 67 = .ok (.bipush 44, 2) := by decide +kernel
theorem d_La_isWritten_69 : decode c_La_isWritten 69 = .ok (.if_icmp .ne 7, 3) := by decide +kernel
theorem d_La_isWritten_72 : decode c_La_isWritten 72 = .ok (.iconst 1, 1) := by decide +kernel
theorem d_La_isWritten_73 : decode c_La_isWritten 73 = .ok (.goto 4, 3) := by decide +kernel
theorem d_La_isWritten_76 : decode c_La_isWritten 76 = .ok (.iconst 0, 1) := by decide +kernel
theorem d_La_isWritten_77 : decode c_La_isWritten 77 = .ok (.istore 6, 2) := by decide +kernel
theorem d_La_isWritten_79 : decode c_La_isWritten 79 = .ok (.iload 4, 2) := by decide +kernel
theorem d_La_isWritten_81 : decode c_La_isWritten 81 = .ok (.iload 5, 2) := by decide +kernel
theorem d_La_isWritten_83 : decode c_La_isWritten 83 = .ok (.ifCond .ne 7, 3) := by decide +kernel
theorem d_La_isWritten_86 : decode c_La_isWritten 86 = .ok (.iconst 0, 1) := by decide +kernel
theorem d_La_isWritten_87 : decode c_La_isWritten 87 = .ok (.goto 4, 3) := by decide +kernel
theorem d_La_isWritten_90 : decode c_La_isWritten 90 = .ok (.iconst 1, 1) := by decide +kernel
theorem d_La_isWritten_91 : decode c_La_isWritten 91 = .ok (.iadd, 1) := by decide +kernel
theorem d_La_isWritten_92 : decode c_La_isWritten 92 = .ok (.istore 4, 2) := by decide +kernel
theorem d_La_isWritten_94 : decode c_La_isWritten 94 = .ok (.iconst 0, 1) := by decide +kernel
theorem d_La_isWritten_95 : decode c_La_isWritten 95 = .ok (.istore 8, 2) := by decide +kernel
theorem d_La_isWritten_97 : decode c_La_isWritten 97 = .ok (.iload 8, 2) := by decide +kernel
theorem d_La_isWritten_99 : decode c_La_isWritten 99 = .ok (.aload_n 0, 1) := by decide +kernel
theorem d_La_isWritten_100 : decode c_La_isWritten 100 = .ok (.iload 7, 2) := by decide +kernel
theorem d_La_isWritten_102 : decode c_La_isWritten 102 = .ok (.iconst 0, 1) := by decide +kernel
theorem d_La_isWritten_103 : decode c_La_isWritten 103 = .ok (.invokevirtual 26, 3) := by decide +kernel
theorem d_La_isWritten_106 : decode c_La_isWritten 106 = .ok (.if_icmp .ge 41, 3) := by decide +kernel
theorem d_La_isWritten_109 : decode c_La_isWritten 109 = .ok (.iload 6, 2) := by decide +kernel
theorem d_La_isWritten_111 : decode c_La_isWritten 111 = .ok (.ifCond .eq 36, 3) := by decide +kernel
theorem d_La_isWritten_114 : decode c_La_isWritten 114 = .ok (.aload_n 0, 1) := by decide +kernel
theorem d_La_isWritten_115 : decode c_La_isWritten 115 = .ok (.iload 4, 2) := by decide +kernel
theorem d_La_isWritten_117 : decode c_La_isWritten 117 = .ok (.invokevirtual 94, 3) := by decide +kernel
theorem d_La_isWritten_120 : decode c_La_isWritten 120 = .ok (.aload_n 0, 1) := by decide +kernel
theorem d_La_isWritten_121 : decode c_La_isWritten 121 = .ok (.iload 7, 2) := by decide +kernel
theorem d_La_isWritten_123 : decode c_La_isWritten 123 = .ok (.iload 8, 2) := by decide +kernel
theorem d_La_isWritten_125 : decode c_La_isWritten 125 = .ok (.invokevirtual 19, 3) := by decide +kernel
theorem d_La_isWritten_128 : decode c_La_isWritten 128 = .ok (.if_icmp .ne 7, 3) := by decide +kernel
theorem d_La_isWritten_131 : decode c_La_isWritten 131 = .ok (.iconst 1, 1) := by decide +kernel
theorem d_La_isWritten_132 : decode c_La_isWritten 132 = .ok (.goto 4, 3) := by decide +kernel
theorem d_La_isWritten_135 : decode c_La_isWritten 135 = .ok (.iconst 0, 1) := by decide +kernel
theorem d_La_isWritten_136 : decode c_La_isWritten 136 = .ok (.istore 6, 2) := by decide +kernel
theorem d_La_isWritten_138 : decode c_La_isWritten 138 = .ok (.iinc 4 1, 3) := by decide +kernel
theorem d_La_isWritten_141 : decode c_La_isWritten 141 = .ok (.iinc 8 1, 3) := by decide +kernel
theorem d_La_isWritten_144 : decode c_La_isWritten 144 = .ok (.goto (-47), 3) := by decide +kernel
theorem d_La_isWritten_147 : decode c_La_isWritten 147 = .ok (.iinc 5 1, 3) := by decide +kernel
theorem d_La_isWritten_150 : decode c_La_isWritten 150 = .ok (.goto (-120), 3) := by decide +kernel
theorem d_La_isWritten_153 : decode c_La_isWritten 153 = .ok (.iload 6, 2) := by decide +kernel
theorem d_La_isWritten_155 : decode c_La_isWritten 155 = .ok (.ifCond .eq 104, 3) := by decide +kernel
theorem d_La_isWritten_158 : decode c_La_isWritten 158 = .ok (.iload 4, 2) := by decide +kernel
theorem d_La_isWritten_160 : decode c_La_isWritten 160 = .ok (.iload_n 3, 1) := by decide +kernel
theorem d_La_isWritten_161 : decode c_La_isWritten 161 = .ok (.if_icmp .ne 98, 3) := by decide +kernel
theorem d_La_isWritten_164 : decode c_La_isWritten 164 = .ok (.aload_n 0, 1) := by decide +kernel
theorem d_La_isWritten_165 : decode c_La_isWritten 165 = .ok (.iload_n 3, 1) := by decide +kernel
theorem d_La_isWritten_166 : decode c_La_isWritten 166 = .ok (.invokevirtual 94, 3) := by decide +kernel
theorem d_La_isWritten_169 : decode c_La_isWritten 169 = .ok (.iconst (-1), 1) := by decide +kernel
theorem d_La_isWritten_170 : decode c_La_isWritten 170 = .ok (.if_icmp .ne 89, 3) := by decide +kernel
theorem d_La_isWritten_173 : decode c_La_isWritten 173 = .ok (.iload 5, 2) := by decide +kernel
theorem d_La_isWritten_175 : decode c_La_isWritten 175 = .ok (.iconst 1, 1) := by decide +kernel
theorem d_La_isWritten_176 : decode c_La_isWritten 176 = .ok (.if_icmp .ne 25, 3) := by decide +kernel
theorem d_La_isWritten_179 : decode c_La_isWritten 179 = .ok (.aload_n 0, 1) := by decide +kernel
theorem d_La_isWritten_180 : decode c_La_isWritten 180 = .ok (.invokevirtual 97, 3) := by decide +kernel
theorem d_La_isWritten_183 : decode c_La_isWritten 183 = .ok (.aload_n 0, 1) := by decide +kernel
theorem d_La_isWritten_184 : decode c_La_isWritten 184 = .ok (.iload_n 1, 1) := by decide +kernel
theorem d_La_isWritten_185 : decode c_La_isWritten 185 = .ok (.iload_n 2, 1) := by decide +kernel
theorem d_La_isWritten_186 : decode c_La_isWritten 186 = .ok (.iconst 0, 1) := by decide +kernel
theorem d_La_isWritten_187 : decode c_La_isWritten 187 = .ok (.invokevirtual 38, 3) := by decide +kernel
theorem d_La_isWritten_190 : decode c_La_isWritten 190 = .ok (.if_icmp .ne 69, 3) := by decide +kernel
theorem d_La_isWritten_193 : decode c_La_isWritten 193 = .ok (.aload_n 0, 1) := by decide +kernel
theorem d_La_isWritten_194 : decode c_La_isWritten 194 = .ok (.invokevirtual 100, 3) := by decide +kernel
theorem d_La_isWritten_197 : decode c_La_isWritten 197 = .ok (.iconst 1, 1) := by decide +kernel
theorem d_La_isWritten_198 : decode c_La_isWritten 198 = .ok (.if_icmp .lt 61, 3) := by decide +kernel
theorem d_La_isWritten_201 : decode c_La_isWritten 201 = .ok (.iload 5, 2) := by decide +kernel
theorem d_La_isWritten_203 : decode c_La_isWritten 203 = .ok (.iconst 2, 1) := by decide +kernel
theorem d_La_isWritten_204 : decode c_La_isWritten 204 = .ok (.if_icmp .lt 12, 3) := by decide +kernel
theorem d_La_isWritten_207 : decode c_La_isWritten 207 = .ok (.aload_n 0, 1) := by decide +kernel
theorem d_La_isWritten_208 : decode c_La_isWritten 208 = .ok (.invokevirtual 97, 3) := by decide +kernel
theorem d_La_isWritten_211 : decode c_La_isWritten 211 = .ok (.bipush (-3), 2) := by decide +kernel
theorem d_La_isWritten_213 : decode c_La_isWritten 213 = .ok (.if_icmp .ne 46, 3) := by decide +kernel
theorem d_La_isWritten_216 : decode c_La_isWritten 216 = .ok (.aload_n 0, 1) := by decide +kernel
theorem d_La_isWritten_217 : decode c_La_isWritten 217 = .ok (.invokevirtual 103, 3) := by decide +kernel
theorem d_La_isWritten_220 : decode c_La_isWritten 220 = .ok (.iload 5, 2) := by decide +kernel
theorem d_La_isWritten_222 : decode c_La_isWritten 222 = .ok (.ifCond .ne 7, 3) := by decide +kernel
theorem d_La_isWritten_225 : decode c_La_isWritten 225 = .ok (.iconst 0, 1) := by decide +kernel
theorem d_La_isWritten_226 : decode c_La_isWritten 226 = .ok (.goto 5, 3) := by decide +kernel
theorem d_La_isWritten_229 : decode c_La_isWritten 229 = .ok (.bipush (-6), 2) := by decide +kernel
theorem d_La_isWritten_231 : decode c_La_isWritten 231 = .ok (.if_icmp .ne 28, 3) := by decide +kernel
theorem d_La_isWritten_234 : decode c_La_isWritten 234 = .ok (.aload_n 0, 1) := by decide +kernel
theorem d_La_isWritten_235 : decode c_La_isWritten 235 = .ok (.iload_n 1, 1) := by decide +kernel
theorem d_La_isWritten_236 : decode c_La_isWritten 236 = .ok (.iload_n 2, 1) := by decide +kernel
theorem d_La_isWritten_237 : decode c_La_isWritten 237 = .ok (.invokevirtual 64, 3) := by decide +kernel
theorem d_La_isWritten_240 : decode c_La_isWritten 240 = .ok (.iload 5, 2) := by decide +kernel
theorem d_La_isWritten_242 : decode c_La_isWritten 242 = .ok (.ifCond .ne 8, 3) := by decide +kernel
theorem d_La_isWritten_245 : decode c_La_isWritten 245 = .ok (.bipush (-3), 2) := by decide +kernel
theorem d_La_isWritten_247 : decode c_La_isWritten 247 = .ok (.goto 5, 3) := by decide +kernel
theorem d_La_isWritten_250 : decode c_La_isWritten 250 = .ok (.bipush (-5), 2) := by decide +kernel
theorem d_La_isWritten_252 : decode c_La_isWritten 252 = .ok (.if_icmp .ne 7, 3) := by decide +kernel
theorem d_La_isWritten_255 : decode c_La_isWritten 255 = .ok (.iconst 1, 1) := by decide +kernel
theorem d_La_isWritten_256 : decode c_La_isWritten 256 = .ok (.goto 4, 3) := by decide +kernel
theorem d_La_isWritten_259 : decode c_La_isWritten 259 = .ok (.iconst 0, 1) := by decide +kernel
theorem d_La_isWritten_260 : decode c_La_isWritten 260 = .ok (.ireturn, 1) := by decide +kernel
