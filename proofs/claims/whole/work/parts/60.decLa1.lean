theorem d_La_law_0 : decode code 0 = .ok (.new 7, 3) := by decide +kernel
theorem d_La_law_3 : decode code 3 = .ok (.dup, 1) := by decide +kernel
theorem d_La_law_4 : decode code 4 = .ok (.invokespecial 9, 3) := by decide +kernel
theorem d_La_law_7 : decode code 7 = .ok (.astore_n 1, 1) := by decide +kernel
theorem d_La_law_8 : decode code 8 = .ok (.new 10, 3) := by decide +kernel
theorem d_La_law_11 : decode code 11 = .ok (.dup, 1) := by decide +kernel
theorem d_La_law_12 : decode code 12 = .ok (.invokespecial 12, 3) := by decide +kernel
theorem d_La_law_15 : decode code 15 = .ok (.astore_n 2, 1) := by decide +kernel
theorem d_La_law_16 : decode code 16 = .ok (.iconst 0, 1) := by decide +kernel
theorem d_La_law_17 : decode code 17 = .ok (.istore_n 3, 1) := by decide +kernel
theorem d_La_law_18 : decode code 18 = .ok (.iload_n 3, 1) := by decide +kernel
theorem d_La_law_19 : decode code 19 = .ok (.aload_n 0, 1) := by decide +kernel
theorem d_La_law_20 : decode code 20 = .ok (.arraylength, 1) := by decide +kernel
theorem d_La_law_21 : decode code 21 = .ok (.iconst 4, 1) := by decide +kernel
theorem d_La_law_22 : decode code 22 = .ok (.isub, 1) := by decide +kernel
theorem d_La_law_23 : decode code 23 = .ok (.if_icmp .gt 914, 3) := by decide +kernel
theorem d_La_law_26 : decode code 26 = .ok (.aload_n 0, 1) := by decide +kernel
theorem d_La_law_27 : decode code 27 = .ok (.iload_n 3, 1) := by decide +kernel
theorem d_La_law_28 : decode code 28 = .ok (.iaload, 1) := by decide +kernel
theorem d_La_law_29 : decode code 29 = .ok (.bipush 31, 2) := by decide +kernel
theorem d_La_law_31 : decode code 31 = .ok (.iand, 1) := by decide +kernel
theorem d_La_law_32 : decode code 32 = .ok (.tableswitch 899 0 28 #[132, 165, 198, 241, 264, 297, 310, 323, 346, 379, 412, 445, 488, 521, 554, 577, 600, 623, 636, 649, 672, 705, 728, 761, 814, 827, 840, 853, 876], 132) := by decide +kernel
theorem d_La_law_164 : decode code 164 = .ok (.aload_n 1, 1) := by decide +kernel
theorem d_La_law_165 : decode code 165 = .ok (.aload_n 0, 1) := by decide +kernel
theorem d_La_law_166 : decode code 166 = .ok (.iload_n 3, 1) := by decide +kernel
theorem d_La_law_167 : decode code 167 = .ok (.iconst 1, 1) := by decide +kernel
theorem d_La_law_168 : decode code 168 = .ok (.iadd, 1) := by decide +kernel
theorem d_La_law_169 : decode code 169 = .ok (.iaload, 1) := by decide +kernel
theorem d_La_law_170 : decode code 170 = .ok (.aload_n 0, 1) := by decide +kernel
theorem d_La_law_171 : decode code 171 = .ok (.iload_n 3, 1) := by decide +kernel
theorem d_La_law_172 : decode code 172 = .ok (.iconst 2, 1) := by decide +kernel
theorem d_La_law_173 : decode code 173 = .ok (.iadd, 1) := by decide +kernel
theorem d_La_law_174 : decode code 174 = .ok (.iaload, 1) := by decide +kernel
theorem d_La_law_175 : decode code 175 = .ok (.invokevirtual 13, 3) := by decide +kernel
theorem d_La_law_178 : decode code 178 = .ok (.aload_n 2, 1) := by decide +kernel
theorem d_La_law_179 : decode code 179 = .ok (.aload_n 0, 1) := by decide +kernel
theorem d_La_law_180 : decode code 180 = .ok (.iload_n 3, 1) := by decide +kernel
theorem d_La_law_181 : decode code 181 = .ok (.iconst 1, 1) := by decide +kernel
theorem d_La_law_182 : decode code 182 = .ok (.iadd, 1) := by decide +kernel
theorem d_La_law_183 : decode code 183 = .ok (.iaload, 1) := by decide +kernel
theorem d_La_law_184 : decode code 184 = .ok (.aload_n 0, 1) := by decide +kernel
theorem d_La_law_185 : decode code 185 = .ok (.iload_n 3, 1) := by decide +kernel
theorem d_La_law_186 : decode code 186 = .ok (.iconst 2, 1) := by decide +kernel
theorem d_La_law_187 : decode code 187 = .ok (.iadd, 1) := by decide +kernel
theorem d_La_law_188 : decode code 188 = .ok (.iaload, 1) := by decide +kernel
theorem d_La_law_189 : decode code 189 = .ok (.invokevirtual 17, 3) := by decide +kernel
theorem d_La_law_192 : decode code 192 = .ok (.if_icmp .eq 739, 3) := by decide +kernel
theorem d_La_law_195 : decode code 195 = .ok (.iconst 0, 1) := by decide +kernel
theorem d_La_law_196 : decode code 196 = .ok (.ireturn, 1) := by decide +kernel
theorem d_La_law_197 : decode code 197 = .ok (.aload_n 1, 1) := by decide +kernel
theorem d_La_law_198 : decode code 198 = .ok (.aload_n 0, 1) := by decide +kernel
theorem d_La_law_199 : decode code 199 = .ok (.iload_n 3, 1) := by decide +kernel
theorem d_La_law_200 : decode code 200 = .ok (.iconst 1, 1) := by decide +kernel
theorem d_La_law_201 : decode code 201 = .ok (.iadd, 1) := by decide +kernel
theorem d_La_law_202 : decode code 202 = .ok (.iaload, 1) := by decide +kernel
theorem d_La_law_203 : decode code 203 = .ok (.aload_n 0, 1) := by decide +kernel
theorem d_La_law_204 : decode code 204 = .ok (.iload_n 3, 1) := by decide +kernel
theorem d_La_law_205 : decode code 205 = .ok (.iconst 2, 1) := by decide +kernel
theorem d_La_law_206 : decode code 206 = .ok (.iadd, 1) := by decide +kernel
theorem d_La_law_207 : decode code 207 = .ok (.iaload, 1) := by decide +kernel
theorem d_La_law_208 : decode code 208 = .ok (.invokevirtual 18, 3) := by decide +kernel
theorem d_La_law_211 : decode code 211 = .ok (.aload_n 2, 1) := by decide +kernel
theorem d_La_law_212 : decode code 212 = .ok (.aload_n 0, 1) := by decide +kernel
theorem d_La_law_213 : decode code 213 = .ok (.iload_n 3, 1) := by decide +kernel
theorem d_La_law_214 : decode code 214 = .ok (.iconst 1, 1) := by decide +kernel
theorem d_La_law_215 : decode code 215 = .ok (.iadd, 1) := by decide +kernel
theorem d_La_law_216 : decode code 216 = .ok (.iaload, 1) := by decide +kernel
theorem d_La_law_217 : decode code 217 = .ok (.aload_n 0, 1) := by decide +kernel
theorem d_La_law_218 : decode code 218 = .ok (.iload_n 3, 1) := by decide +kernel
theorem d_La_law_219 : decode code 219 = .ok (.iconst 2, 1) := by decide +kernel
theorem d_La_law_220 : decode code 220 = .ok (.iadd, 1) := by decide +kernel
theorem d_La_law_221 : decode code 221 = .ok (.iaload, 1) := by decide +kernel
theorem d_La_law_222 : decode code 222 = .ok (.invokevirtual 21, 3) := by decide +kernel
theorem d_La_law_225 : decode code 225 = .ok (.if_icmp .eq 706, 3) := by decide +kernel
theorem d_La_law_228 : decode code 228 = .ok (.iconst 0, 1) := by decide +kernel
theorem d_La_law_229 : decode code 229 = .ok (.ireturn, 1) := by decide +kernel
theorem d_La_law_230 : decode code 230 = .ok (.aload_n 1, 1) := by decide +kernel
theorem d_La_law_231 : decode code 231 = .ok (.aload_n 0, 1) := by decide +kernel
theorem d_La_law_232 : decode code 232 = .ok (.iload_n 3, 1) := by decide +kernel
theorem d_La_law_233 : decode code 233 = .ok (.iconst 1, 1) := by decide +kernel
theorem d_La_law_234 : decode code 234 = .ok (.iadd, 1) := by decide +kernel
theorem d_La_law_235 : decode code 235 = .ok (.iaload, 1) := by decide +kernel
theorem d_La_law_236 : decode code 236 = .ok (.aload_n 0, 1) := by decide +kernel
theorem d_La_law_237 : decode code 237 = .ok (.iload_n 3, 1) := by decide +kernel
theorem d_La_law_238 : decode code 238 = .ok (.iconst 2, 1) := by decide +kernel
theorem d_La_law_239 : decode code 239 = .ok (.iadd, 1) := by decide +kernel
theorem d_La_law_240 : decode code 240 = .ok (.iaload, 1) := by decide +kernel
theorem d_La_law_241 : decode code 241 = .ok (.aload_n 0, 1) := by decide +kernel
theorem d_La_law_242 : decode code 242 = .ok (.iload_n 3, 1) := by decide +kernel
theorem d_La_law_243 : decode code 243 = .ok (.iconst 3, 1) := by decide +kernel
theorem d_La_law_244 : decode code 244 = .ok (.iadd, 1) := by decide +kernel
theorem d_La_law_245 : decode code 245 = .ok (.iaload, 1) := by decide +kernel
theorem d_La_law_246 : decode code 246 = .ok (.invokevirtual 22, 3) := by decide +kernel
theorem d_La_law_249 : decode code 249 = .ok (.aload_n 2, 1) := by decide +kernel
theorem d_La_law_250 : decode code 250 = .ok (.aload_n 0, 1) := by decide +kernel
theorem d_La_law_251 : decode code 251 = .ok (.iload_n 3, 1) := by decide +kernel
theorem d_La_law_252 : decode code 252 = .ok (.iconst 1, 1) := by decide +kernel
theorem d_La_law_253 : decode code 253 = .ok (.iadd, 1) := by decide +kernel
theorem d_La_law_254 : decode code 254 = .ok (.iaload, 1) := by decide +kernel
theorem d_La_law_255 : decode code 255 = .ok (.aload_n 0, 1) := by decide +kernel
theorem d_La_law_256 : decode code 256 = .ok (.iload_n 3, 1) := by decide +kernel
theorem d_La_law_257 : decode code 257 = .ok (.iconst 2, 1) := by decide +kernel
theorem d_La_law_258 : decode code 258 = .ok (.iadd, 1) := by decide +kernel
theorem d_La_law_259 : decode code 259 = .ok (.iaload, 1) := by decide +kernel
theorem d_La_law_260 : decode code 260 = .ok (.aload_n 0, 1) := by decide +kernel
theorem d_La_law_261 : decode code 261 = .ok (.iload_n 3, 1) := by decide +kernel
theorem d_La_law_262 : decode code 262 = .ok (.iconst 3, 1) := by decide +kernel
theorem d_La_law_263 : decode code 263 = .ok (.iadd, 1) := by decide +kernel
theorem d_La_law_264 : decode code 264 = .ok (.iaload, 1) := by decide +kernel
theorem d_La_law_265 : decode code 265 = .ok (.invokevirtual 26, 3) := by decide +kernel
