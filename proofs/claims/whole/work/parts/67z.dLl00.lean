theorem dL_law_0 : decode jL_law.2.1 0 = .ok (.new 8, 3) := by decide +kernel
theorem dL_law_3 : decode jL_law.2.1 3 = .ok (.dup, 1) := by decide +kernel
theorem dL_law_4 : decode jL_law.2.1 4 = .ok (.invokespecial 75, 3) := by decide +kernel
theorem dL_law_7 : decode jL_law.2.1 7 = .ok (.astore_n 1, 1) := by decide +kernel
theorem dL_law_8 : decode jL_law.2.1 8 = .ok (.new 76, 3) := by decide +kernel
theorem dL_law_11 : decode jL_law.2.1 11 = .ok (.dup, 1) := by decide +kernel
theorem dL_law_12 : decode jL_law.2.1 12 = .ok (.invokespecial 78, 3) := by decide +kernel
theorem dL_law_15 : decode jL_law.2.1 15 = .ok (.astore_n 2, 1) := by decide +kernel
theorem dL_law_16 : decode jL_law.2.1 16 = .ok (.iconst 1, 1) := by decide +kernel
theorem dL_law_17 : decode jL_law.2.1 17 = .ok (.newarray .long, 2) := by decide +kernel
theorem dL_law_19 : decode jL_law.2.1 19 = .ok (.astore_n 3, 1) := by decide +kernel
theorem dL_law_20 : decode jL_law.2.1 20 = .ok (.iconst 0, 1) := by decide +kernel
theorem dL_law_21 : decode jL_law.2.1 21 = .ok (.istore 4, 2) := by decide +kernel
theorem dL_law_23 : decode jL_law.2.1 23 = .ok (.iload 4, 2) := by decide +kernel
theorem dL_law_25 : decode jL_law.2.1 25 = .ok (.aload_n 0, 1) := by decide +kernel
theorem dL_law_26 : decode jL_law.2.1 26 = .ok (.arraylength, 1) := by decide +kernel
theorem dL_law_27 : decode jL_law.2.1 27 = .ok (.bipush 8, 2) := by decide +kernel
theorem dL_law_29 : decode jL_law.2.1 29 = .ok (.isub, 1) := by decide +kernel
theorem dL_law_30 : decode jL_law.2.1 30 = .ok (.if_icmp .gt 1489, 3) := by decide +kernel
theorem dL_law_33 : decode jL_law.2.1 33 = .ok (.aload_n 0, 1) := by decide +kernel
theorem dL_law_34 : decode jL_law.2.1 34 = .ok (.iload 4, 2) := by decide +kernel
theorem dL_law_36 : decode jL_law.2.1 36 = .ok (.iaload, 1) := by decide +kernel
theorem dL_law_37 : decode jL_law.2.1 37 = .ok (.bipush 31, 2) := by decide +kernel
theorem dL_law_39 : decode jL_law.2.1 39 = .ok (.iand, 1) := by decide +kernel
theorem dL_law_40 : decode jL_law.2.1 40 = .ok (.tableswitch 1473 0 20 #[100, 200, 299, 398, 466, 578, 750, 825, 892, 972, 1051, 1131, 1167, 1230, 1286, 1354, 1365, 1378, 1391, 1404, 1460], 100) := by decide +kernel
theorem dL_law_140 : decode jL_law.2.1 140 = .ok (.aload_n 1, 1) := by decide +kernel
theorem dL_law_141 : decode jL_law.2.1 141 = .ok (.aload_n 0, 1) := by decide +kernel
theorem dL_law_142 : decode jL_law.2.1 142 = .ok (.iload 4, 2) := by decide +kernel
theorem dL_law_144 : decode jL_law.2.1 144 = .ok (.iconst 1, 1) := by decide +kernel
theorem dL_law_145 : decode jL_law.2.1 145 = .ok (.iadd, 1) := by decide +kernel
theorem dL_law_146 : decode jL_law.2.1 146 = .ok (.iaload, 1) := by decide +kernel
theorem dL_law_147 : decode jL_law.2.1 147 = .ok (.aload_n 0, 1) := by decide +kernel
theorem dL_law_148 : decode jL_law.2.1 148 = .ok (.iload 4, 2) := by decide +kernel
theorem dL_law_150 : decode jL_law.2.1 150 = .ok (.iconst 2, 1) := by decide +kernel
theorem dL_law_151 : decode jL_law.2.1 151 = .ok (.iadd, 1) := by decide +kernel
theorem dL_law_152 : decode jL_law.2.1 152 = .ok (.iaload, 1) := by decide +kernel
theorem dL_law_153 : decode jL_law.2.1 153 = .ok (.i2l, 1) := by decide +kernel
theorem dL_law_154 : decode jL_law.2.1 154 = .ok (.bipush 32, 2) := by decide +kernel
theorem dL_law_156 : decode jL_law.2.1 156 = .ok (.lshl, 1) := by decide +kernel
theorem dL_law_157 : decode jL_law.2.1 157 = .ok (.aload_n 0, 1) := by decide +kernel
theorem dL_law_158 : decode jL_law.2.1 158 = .ok (.iload 4, 2) := by decide +kernel
theorem dL_law_160 : decode jL_law.2.1 160 = .ok (.iconst 3, 1) := by decide +kernel
theorem dL_law_161 : decode jL_law.2.1 161 = .ok (.iadd, 1) := by decide +kernel
theorem dL_law_162 : decode jL_law.2.1 162 = .ok (.iaload, 1) := by decide +kernel
theorem dL_law_163 : decode jL_law.2.1 163 = .ok (.i2l, 1) := by decide +kernel
theorem dL_law_164 : decode jL_law.2.1 164 = .ok (.ldc2_w 79, 3) := by decide +kernel
theorem dL_law_167 : decode jL_law.2.1 167 = .ok (.land, 1) := by decide +kernel
theorem dL_law_168 : decode jL_law.2.1 168 = .ok (.lor, 1) := by decide +kernel
theorem dL_law_169 : decode jL_law.2.1 169 = .ok (.aload_n 3, 1) := by decide +kernel
theorem dL_law_170 : decode jL_law.2.1 170 = .ok (.invokestatic 81, 3) := by decide +kernel
theorem dL_law_173 : decode jL_law.2.1 173 = .ok (.istore 5, 2) := by decide +kernel
theorem dL_law_175 : decode jL_law.2.1 175 = .ok (.aload_n 2, 1) := by decide +kernel
theorem dL_law_176 : decode jL_law.2.1 176 = .ok (.aload_n 0, 1) := by decide +kernel
theorem dL_law_177 : decode jL_law.2.1 177 = .ok (.iload 4, 2) := by decide +kernel
theorem dL_law_179 : decode jL_law.2.1 179 = .ok (.iconst 1, 1) := by decide +kernel
theorem dL_law_180 : decode jL_law.2.1 180 = .ok (.iadd, 1) := by decide +kernel
theorem dL_law_181 : decode jL_law.2.1 181 = .ok (.iaload, 1) := by decide +kernel
theorem dL_law_182 : decode jL_law.2.1 182 = .ok (.aload_n 0, 1) := by decide +kernel
theorem dL_law_183 : decode jL_law.2.1 183 = .ok (.iload 4, 2) := by decide +kernel
theorem dL_law_185 : decode jL_law.2.1 185 = .ok (.iconst 2, 1) := by decide +kernel
theorem dL_law_186 : decode jL_law.2.1 186 = .ok (.iadd, 1) := by decide +kernel
theorem dL_law_187 : decode jL_law.2.1 187 = .ok (.iaload, 1) := by decide +kernel
theorem dL_law_188 : decode jL_law.2.1 188 = .ok (.i2l, 1) := by decide +kernel
theorem dL_law_189 : decode jL_law.2.1 189 = .ok (.bipush 32, 2) := by decide +kernel
theorem dL_law_191 : decode jL_law.2.1 191 = .ok (.lshl, 1) := by decide +kernel
theorem dL_law_192 : decode jL_law.2.1 192 = .ok (.aload_n 0, 1) := by decide +kernel
theorem dL_law_193 : decode jL_law.2.1 193 = .ok (.iload 4, 2) := by decide +kernel
theorem dL_law_195 : decode jL_law.2.1 195 = .ok (.iconst 3, 1) := by decide +kernel
theorem dL_law_196 : decode jL_law.2.1 196 = .ok (.iadd, 1) := by decide +kernel
theorem dL_law_197 : decode jL_law.2.1 197 = .ok (.iaload, 1) := by decide +kernel
theorem dL_law_198 : decode jL_law.2.1 198 = .ok (.i2l, 1) := by decide +kernel
theorem dL_law_199 : decode jL_law.2.1 199 = .ok (.ldc2_w 79, 3) := by decide +kernel
theorem dL_law_202 : decode jL_law.2.1 202 = .ok (.land, 1) := by decide +kernel
theorem dL_law_203 : decode jL_law.2.1 203 = .ok (.lor, 1) := by decide +kernel
theorem dL_law_204 : decode jL_law.2.1 204 = .ok (.invokevirtual 86, 3) := by decide +kernel
theorem dL_law_207 : decode jL_law.2.1 207 = .ok (.istore 6, 2) := by decide +kernel
theorem dL_law_209 : decode jL_law.2.1 209 = .ok (.aload_n 2, 1) := by decide +kernel
theorem dL_law_210 : decode jL_law.2.1 210 = .ok (.invokevirtual 87, 3) := by decide +kernel
theorem dL_law_213 : decode jL_law.2.1 213 = .ok (.iload 5, 2) := by decide +kernel
theorem dL_law_215 : decode jL_law.2.1 215 = .ok (.if_icmp .eq 5, 3) := by decide +kernel
theorem dL_law_218 : decode jL_law.2.1 218 = .ok (.iconst 0, 1) := by decide +kernel
theorem dL_law_219 : decode jL_law.2.1 219 = .ok (.ireturn, 1) := by decide +kernel
theorem dL_law_220 : decode jL_law.2.1 220 = .ok (.iload 5, 2) := by decide +kernel
theorem dL_law_222 : decode jL_law.2.1 222 = .ok (.ifCond .ne 15, 3) := by decide +kernel
theorem dL_law_225 : decode jL_law.2.1 225 = .ok (.aload_n 3, 1) := by decide +kernel
theorem dL_law_226 : decode jL_law.2.1 226 = .ok (.iconst 0, 1) := by decide +kernel
theorem dL_law_227 : decode jL_law.2.1 227 = .ok (.laload, 1) := by decide +kernel
theorem dL_law_228 : decode jL_law.2.1 228 = .ok (.iload 6, 2) := by decide +kernel
theorem dL_law_230 : decode jL_law.2.1 230 = .ok (.i2l, 1) := by decide +kernel
theorem dL_law_231 : decode jL_law.2.1 231 = .ok (.lcmp, 1) := by decide +kernel
theorem dL_law_232 : decode jL_law.2.1 232 = .ok (.ifCond .eq 5, 3) := by decide +kernel
theorem dL_law_235 : decode jL_law.2.1 235 = .ok (.iconst 0, 1) := by decide +kernel
theorem dL_law_236 : decode jL_law.2.1 236 = .ok (.ireturn, 1) := by decide +kernel
theorem dL_law_237 : decode jL_law.2.1 237 = .ok (.goto 1276, 3) := by decide +kernel
theorem dL_law_240 : decode jL_law.2.1 240 = .ok (.aload_n 1, 1) := by decide +kernel
theorem dL_law_241 : decode jL_law.2.1 241 = .ok (.aload_n 0, 1) := by decide +kernel
theorem dL_law_242 : decode jL_law.2.1 242 = .ok (.iload 4, 2) := by decide +kernel
theorem dL_law_244 : decode jL_law.2.1 244 = .ok (.iconst 1, 1) := by decide +kernel
theorem dL_law_245 : decode jL_law.2.1 245 = .ok (.iadd, 1) := by decide +kernel
theorem dL_law_246 : decode jL_law.2.1 246 = .ok (.iaload, 1) := by decide +kernel
theorem dL_law_247 : decode jL_law.2.1 247 = .ok (.aload_n 0, 1) := by decide +kernel
theorem dL_law_248 : decode jL_law.2.1 248 = .ok (.iload 4, 2) := by decide +kernel
theorem dL_law_250 : decode jL_law.2.1 250 = .ok (.iconst 2, 1) := by decide +kernel
theorem dL_law_251 : decode jL_law.2.1 251 = .ok (.iadd, 1) := by decide +kernel
theorem dL_law_252 : decode jL_law.2.1 252 = .ok (.iaload, 1) := by decide +kernel
theorem dL_law_253 : decode jL_law.2.1 253 = .ok (.i2l, 1) := by decide +kernel
theorem dL_law_254 : decode jL_law.2.1 254 = .ok (.bipush 32, 2) := by decide +kernel
theorem dL_law_256 : decode jL_law.2.1 256 = .ok (.lshl, 1) := by decide +kernel
theorem dL_law_257 : decode jL_law.2.1 257 = .ok (.aload_n 0, 1) := by decide +kernel
theorem dL_law_258 : decode jL_law.2.1 258 = .ok (.iload 4, 2) := by decide +kernel
theorem dL_law_260 : decode jL_law.2.1 260 = .ok (.iconst 3, 1) := by decide +kernel
theorem dL_law_261 : decode jL_law.2.1 261 = .ok (.iadd, 1) := by decide +kernel
theorem dL_law_262 : decode jL_law.2.1 262 = .ok (.iaload, 1) := by decide +kernel
theorem dL_law_263 : decode jL_law.2.1 263 = .ok (.i2l, 1) := by decide +kernel
theorem dL_law_264 : decode jL_law.2.1 264 = .ok (.ldc2_w 79, 3) := by decide +kernel
theorem dL_law_267 : decode jL_law.2.1 267 = .ok (.land, 1) := by decide +kernel
theorem dL_law_268 : decode jL_law.2.1 268 = .ok (.lor, 1) := by decide +kernel
theorem dL_law_269 : decode jL_law.2.1 269 = .ok (.aload_n 3, 1) := by decide +kernel
theorem dL_law_270 : decode jL_law.2.1 270 = .ok (.invokestatic 91, 3) := by decide +kernel
theorem dL_law_273 : decode jL_law.2.1 273 = .ok (.istore 5, 2) := by decide +kernel
