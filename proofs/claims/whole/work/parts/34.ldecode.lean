/-! decode rows of law -/
abbrev fb_Lw_law : ByteArray := code
theorem fx_Lw_law_0 : decode fb_Lw_law 0 = .ok (.new 8, 3) := by decide +kernel
theorem fx_Lw_law_3 : decode fb_Lw_law 3 = .ok (.dup, 1) := by decide +kernel
theorem fx_Lw_law_4 : decode fb_Lw_law 4 = .ok (.invokespecial 54, 3) := by decide +kernel
theorem fx_Lw_law_7 : decode fb_Lw_law 7 = .ok (.astore_n 1, 1) := by decide +kernel
theorem fx_Lw_law_8 : decode fb_Lw_law 8 = .ok (.new 55, 3) := by decide +kernel
theorem fx_Lw_law_11 : decode fb_Lw_law 11 = .ok (.dup, 1) := by decide +kernel
theorem fx_Lw_law_12 : decode fb_Lw_law 12 = .ok (.invokespecial 57, 3) := by decide +kernel
theorem fx_Lw_law_15 : decode fb_Lw_law 15 = .ok (.astore_n 2, 1) := by decide +kernel
theorem fx_Lw_law_16 : decode fb_Lw_law 16 = .ok (.iconst 1, 1) := by decide +kernel
theorem fx_Lw_law_17 : decode fb_Lw_law 17 = .ok (.newarray .long, 2) := by decide +kernel
theorem fx_Lw_law_19 : decode fb_Lw_law 19 = .ok (.astore_n 3, 1) := by decide +kernel
theorem fx_Lw_law_20 : decode fb_Lw_law 20 = .ok (.iconst 1, 1) := by decide +kernel
theorem fx_Lw_law_21 : decode fb_Lw_law 21 = .ok (.newarray .double, 2) := by decide +kernel
theorem fx_Lw_law_23 : decode fb_Lw_law 23 = .ok (.astore 4, 2) := by decide +kernel
theorem fx_Lw_law_25 : decode fb_Lw_law 25 = .ok (.iconst 0, 1) := by decide +kernel
theorem fx_Lw_law_26 : decode fb_Lw_law 26 = .ok (.istore 5, 2) := by decide +kernel
theorem fx_Lw_law_28 : decode fb_Lw_law 28 = .ok (.iload 5, 2) := by decide +kernel
theorem fx_Lw_law_30 : decode fb_Lw_law 30 = .ok (.aload_n 0, 1) := by decide +kernel
theorem fx_Lw_law_31 : decode fb_Lw_law 31 = .ok (.arraylength, 1) := by decide +kernel
theorem fx_Lw_law_32 : decode fb_Lw_law 32 = .ok (.bipush 8, 2) := by decide +kernel
theorem fx_Lw_law_34 : decode fb_Lw_law 34 = .ok (.isub, 1) := by decide +kernel
theorem fx_Lw_law_35 : decode fb_Lw_law 35 = .ok (.if_icmp .gt 885, 3) := by decide +kernel
theorem fx_Lw_law_38 : decode fb_Lw_law 38 = .ok (.aload_n 0, 1) := by decide +kernel
theorem fx_Lw_law_39 : decode fb_Lw_law 39 = .ok (.iload 5, 2) := by decide +kernel
theorem fx_Lw_law_41 : decode fb_Lw_law 41 = .ok (.iaload, 1) := by decide +kernel
theorem fx_Lw_law_42 : decode fb_Lw_law 42 = .ok (.bipush 15, 2) := by decide +kernel
theorem fx_Lw_law_44 : decode fb_Lw_law 44 = .ok (.iand, 1) := by decide +kernel
theorem fx_Lw_law_45 : decode fb_Lw_law 45 = .ok (.tableswitch 869 0 9 #[55, 127, 187, 283, 393, 480, 612, 668, 736, 813], 55) := by decide +kernel
theorem fx_Lw_law_100 : decode fb_Lw_law 100 = .ok (.aload_n 1, 1) := by decide +kernel
theorem fx_Lw_law_101 : decode fb_Lw_law 101 = .ok (.aload_n 0, 1) := by decide +kernel
theorem fx_Lw_law_102 : decode fb_Lw_law 102 = .ok (.iload 5, 2) := by decide +kernel
theorem fx_Lw_law_104 : decode fb_Lw_law 104 = .ok (.iconst 1, 1) := by decide +kernel
theorem fx_Lw_law_105 : decode fb_Lw_law 105 = .ok (.iadd, 1) := by decide +kernel
theorem fx_Lw_law_106 : decode fb_Lw_law 106 = .ok (.iaload, 1) := by decide +kernel
theorem fx_Lw_law_107 : decode fb_Lw_law 107 = .ok (.aload_n 0, 1) := by decide +kernel
theorem fx_Lw_law_108 : decode fb_Lw_law 108 = .ok (.iload 5, 2) := by decide +kernel
theorem fx_Lw_law_110 : decode fb_Lw_law 110 = .ok (.iconst 2, 1) := by decide +kernel
theorem fx_Lw_law_111 : decode fb_Lw_law 111 = .ok (.iadd, 1) := by decide +kernel
theorem fx_Lw_law_112 : decode fb_Lw_law 112 = .ok (.iaload, 1) := by decide +kernel
theorem fx_Lw_law_113 : decode fb_Lw_law 113 = .ok (.aload_n 0, 1) := by decide +kernel
theorem fx_Lw_law_114 : decode fb_Lw_law 114 = .ok (.iload 5, 2) := by decide +kernel
theorem fx_Lw_law_116 : decode fb_Lw_law 116 = .ok (.iconst 3, 1) := by decide +kernel
theorem fx_Lw_law_117 : decode fb_Lw_law 117 = .ok (.iadd, 1) := by decide +kernel
theorem fx_Lw_law_118 : decode fb_Lw_law 118 = .ok (.iaload, 1) := by decide +kernel
theorem fx_Lw_law_119 : decode fb_Lw_law 119 = .ok (.aload_n 0, 1) := by decide +kernel
theorem fx_Lw_law_120 : decode fb_Lw_law 120 = .ok (.iload 5, 2) := by decide +kernel
theorem fx_Lw_law_122 : decode fb_Lw_law 122 = .ok (.iconst 4, 1) := by decide +kernel
theorem fx_Lw_law_123 : decode fb_Lw_law 123 = .ok (.iadd, 1) := by decide +kernel
theorem fx_Lw_law_124 : decode fb_Lw_law 124 = .ok (.iaload, 1) := by decide +kernel
theorem fx_Lw_law_125 : decode fb_Lw_law 125 = .ok (.invokestatic 58, 3) := by decide +kernel
theorem fx_Lw_law_128 : decode fb_Lw_law 128 = .ok (.istore 6, 2) := by decide +kernel
theorem fx_Lw_law_130 : decode fb_Lw_law 130 = .ok (.aload_n 2, 1) := by decide +kernel
theorem fx_Lw_law_131 : decode fb_Lw_law 131 = .ok (.aload_n 0, 1) := by decide +kernel
theorem fx_Lw_law_132 : decode fb_Lw_law 132 = .ok (.iload 5, 2) := by decide +kernel
theorem fx_Lw_law_134 : decode fb_Lw_law 134 = .ok (.iconst 1, 1) := by decide +kernel
theorem fx_Lw_law_135 : decode fb_Lw_law 135 = .ok (.iadd, 1) := by decide +kernel
theorem fx_Lw_law_136 : decode fb_Lw_law 136 = .ok (.iaload, 1) := by decide +kernel
theorem fx_Lw_law_137 : decode fb_Lw_law 137 = .ok (.aload_n 0, 1) := by decide +kernel
theorem fx_Lw_law_138 : decode fb_Lw_law 138 = .ok (.iload 5, 2) := by decide +kernel
theorem fx_Lw_law_140 : decode fb_Lw_law 140 = .ok (.iconst 2, 1) := by decide +kernel
theorem fx_Lw_law_141 : decode fb_Lw_law 141 = .ok (.iadd, 1) := by decide +kernel
theorem fx_Lw_law_142 : decode fb_Lw_law 142 = .ok (.iaload, 1) := by decide +kernel
theorem fx_Lw_law_143 : decode fb_Lw_law 143 = .ok (.aload_n 0, 1) := by decide +kernel
theorem fx_Lw_law_144 : decode fb_Lw_law 144 = .ok (.iload 5, 2) := by decide +kernel
theorem fx_Lw_law_146 : decode fb_Lw_law 146 = .ok (.iconst 3, 1) := by decide +kernel
theorem fx_Lw_law_147 : decode fb_Lw_law 147 = .ok (.iadd, 1) := by decide +kernel
theorem fx_Lw_law_148 : decode fb_Lw_law 148 = .ok (.iaload, 1) := by decide +kernel
theorem fx_Lw_law_149 : decode fb_Lw_law 149 = .ok (.aload_n 0, 1) := by decide +kernel
theorem fx_Lw_law_150 : decode fb_Lw_law 150 = .ok (.iload 5, 2) := by decide +kernel
theorem fx_Lw_law_152 : decode fb_Lw_law 152 = .ok (.iconst 4, 1) := by decide +kernel
theorem fx_Lw_law_153 : decode fb_Lw_law 153 = .ok (.iadd, 1) := by decide +kernel
theorem fx_Lw_law_154 : decode fb_Lw_law 154 = .ok (.iaload, 1) := by decide +kernel
theorem fx_Lw_law_155 : decode fb_Lw_law 155 = .ok (.invokevirtual 63, 3) := by decide +kernel
theorem fx_Lw_law_158 : decode fb_Lw_law 158 = .ok (.aload_n 2, 1) := by decide +kernel
theorem fx_Lw_law_159 : decode fb_Lw_law 159 = .ok (.invokevirtual 64, 3) := by decide +kernel
theorem fx_Lw_law_162 : decode fb_Lw_law 162 = .ok (.iload 6, 2) := by decide +kernel
theorem fx_Lw_law_164 : decode fb_Lw_law 164 = .ok (.if_icmp .eq 5, 3) := by decide +kernel
theorem fx_Lw_law_167 : decode fb_Lw_law 167 = .ok (.iconst 0, 1) := by decide +kernel
theorem fx_Lw_law_168 : decode fb_Lw_law 168 = .ok (.ireturn, 1) := by decide +kernel
theorem fx_Lw_law_169 : decode fb_Lw_law 169 = .ok (.goto 745, 3) := by decide +kernel
theorem fx_Lw_law_172 : decode fb_Lw_law 172 = .ok (.aload_n 1, 1) := by decide +kernel
theorem fx_Lw_law_173 : decode fb_Lw_law 173 = .ok (.aload_n 0, 1) := by decide +kernel
theorem fx_Lw_law_174 : decode fb_Lw_law 174 = .ok (.iload 5, 2) := by decide +kernel
theorem fx_Lw_law_176 : decode fb_Lw_law 176 = .ok (.iconst 1, 1) := by decide +kernel
theorem fx_Lw_law_177 : decode fb_Lw_law 177 = .ok (.iadd, 1) := by decide +kernel
theorem fx_Lw_law_178 : decode fb_Lw_law 178 = .ok (.iaload, 1) := by decide +kernel
theorem fx_Lw_law_179 : decode fb_Lw_law 179 = .ok (.aload_n 0, 1) := by decide +kernel
theorem fx_Lw_law_180 : decode fb_Lw_law 180 = .ok (.iload 5, 2) := by decide +kernel
theorem fx_Lw_law_182 : decode fb_Lw_law 182 = .ok (.iconst 2, 1) := by decide +kernel
theorem fx_Lw_law_183 : decode fb_Lw_law 183 = .ok (.iadd, 1) := by decide +kernel
theorem fx_Lw_law_184 : decode fb_Lw_law 184 = .ok (.iaload, 1) := by decide +kernel
theorem fx_Lw_law_185 : decode fb_Lw_law 185 = .ok (.aload_n 0, 1) := by decide +kernel
theorem fx_Lw_law_186 : decode fb_Lw_law 186 = .ok (.iload 5, 2) := by decide +kernel
theorem fx_Lw_law_188 : decode fb_Lw_law 188 = .ok (.iconst 3, 1) := by decide +kernel
theorem fx_Lw_law_189 : decode fb_Lw_law 189 = .ok (.iadd, 1) := by decide +kernel
theorem fx_Lw_law_190 : decode fb_Lw_law 190 = .ok (.iaload, 1) := by decide +kernel
theorem fx_Lw_law_191 : decode fb_Lw_law 191 = .ok (.invokestatic 68, 3) := by decide +kernel
theorem fx_Lw_law_194 : decode fb_Lw_law 194 = .ok (.istore 6, 2) := by decide +kernel
theorem fx_Lw_law_196 : decode fb_Lw_law 196 = .ok (.aload_n 2, 1) := by decide +kernel
theorem fx_Lw_law_197 : decode fb_Lw_law 197 = .ok (.aload_n 0, 1) := by decide +kernel
theorem fx_Lw_law_198 : decode fb_Lw_law 198 = .ok (.iload 5, 2) := by decide +kernel
theorem fx_Lw_law_200 : decode fb_Lw_law 200 = .ok (.iconst 1, 1) := by decide +kernel
theorem fx_Lw_law_201 : decode fb_Lw_law 201 = .ok (.iadd, 1) := by decide +kernel
theorem fx_Lw_law_202 : decode fb_Lw_law 202 = .ok (.iaload, 1) := by decide +kernel
theorem fx_Lw_law_203 : decode fb_Lw_law 203 = .ok (.aload_n 0, 1) := by decide +kernel
theorem fx_Lw_law_204 : decode fb_Lw_law 204 = .ok (.iload 5, 2) := by decide +kernel
theorem fx_Lw_law_206 : decode fb_Lw_law 206 = .ok (.iconst 2, 1) := by decide +kernel
theorem fx_Lw_law_207 : decode fb_Lw_law 207 = .ok (.iadd, 1) := by decide +kernel
theorem fx_Lw_law_208 : decode fb_Lw_law 208 = .ok (.iaload, 1) := by decide +kernel
theorem fx_Lw_law_209 : decode fb_Lw_law 209 = .ok (.aload_n 0, 1) := by decide +kernel
theorem fx_Lw_law_210 : decode fb_Lw_law 210 = .ok (.iload 5, 2) := by decide +kernel
theorem fx_Lw_law_212 : decode fb_Lw_law 212 = .ok (.iconst 3, 1) := by decide +kernel
theorem fx_Lw_law_213 : decode fb_Lw_law 213 = .ok (.iadd, 1) := by decide +kernel
theorem fx_Lw_law_214 : decode fb_Lw_law 214 = .ok (.iaload, 1) := by decide +kernel
theorem fx_Lw_law_215 : decode fb_Lw_law 215 = .ok (.invokevirtual 71, 3) := by decide +kernel
theorem fx_Lw_law_218 : decode fb_Lw_law 218 = .ok (.aload_n 2, 1) := by decide +kernel
theorem fx_Lw_law_219 : decode fb_Lw_law 219 = .ok (.invokevirtual 64, 3) := by decide +kernel
theorem fx_Lw_law_222 : decode fb_Lw_law 222 = .ok (.iload 6, 2) := by decide +kernel
theorem fx_Lw_law_224 : decode fb_Lw_law 224 = .ok (.if_icmp .eq 5, 3) := by decide +kernel
theorem fx_Lw_law_227 : decode fb_Lw_law 227 = .ok (.iconst 0, 1) := by decide +kernel
theorem fx_Lw_law_228 : decode fb_Lw_law 228 = .ok (.ireturn, 1) := by decide +kernel
theorem fx_Lw_law_229 : decode fb_Lw_law 229 = .ok (.goto 685, 3) := by decide +kernel
theorem fx_Lw_law_232 : decode fb_Lw_law 232 = .ok (.aload_n 1, 1) := by decide +kernel
theorem fx_Lw_law_233 : decode fb_Lw_law 233 = .ok (.aload_n 0, 1) := by decide +kernel
theorem fx_Lw_law_234 : decode fb_Lw_law 234 = .ok (.iload 5, 2) := by decide +kernel
theorem fx_Lw_law_236 : decode fb_Lw_law 236 = .ok (.iconst 1, 1) := by decide +kernel
theorem fx_Lw_law_237 : decode fb_Lw_law 237 = .ok (.iadd, 1) := by decide +kernel
theorem fx_Lw_law_238 : decode fb_Lw_law 238 = .ok (.iaload, 1) := by decide +kernel
theorem fx_Lw_law_239 : decode fb_Lw_law 239 = .ok (.aload_n 0, 1) := by decide +kernel
theorem fx_Lw_law_240 : decode fb_Lw_law 240 = .ok (.iload 5, 2) := by decide +kernel
theorem fx_Lw_law_242 : decode fb_Lw_law 242 = .ok (.iconst 2, 1) := by decide +kernel
theorem fx_Lw_law_243 : decode fb_Lw_law 243 = .ok (.iadd, 1) := by decide +kernel
theorem fx_Lw_law_244 : decode fb_Lw_law 244 = .ok (.iaload, 1) := by decide +kernel
theorem fx_Lw_law_245 : decode fb_Lw_law 245 = .ok (.aload_n 0, 1) := by decide +kernel
theorem fx_Lw_law_246 : decode fb_Lw_law 246 = .ok (.iload 5, 2) := by decide +kernel
theorem fx_Lw_law_248 : decode fb_Lw_law 248 = .ok (.iconst 3, 1) := by decide +kernel
theorem fx_Lw_law_249 : decode fb_Lw_law 249 = .ok (.iadd, 1) := by decide +kernel
theorem fx_Lw_law_250 : decode fb_Lw_law 250 = .ok (.iaload, 1) := by decide +kernel
theorem fx_Lw_law_251 : decode fb_Lw_law 251 = .ok (.ifCond .eq 7, 3) := by decide +kernel
theorem fx_Lw_law_254 : decode fb_Lw_law 254 = .ok (.iconst 1, 1) := by decide +kernel
theorem fx_Lw_law_255 : decode fb_Lw_law 255 = .ok (.goto 4, 3) := by decide +kernel
theorem fx_Lw_law_258 : decode fb_Lw_law 258 = .ok (.iconst 0, 1) := by decide +kernel
theorem fx_Lw_law_259 : decode fb_Lw_law 259 = .ok (.aload_n 3, 1) := by decide +kernel
theorem fx_Lw_law_260 : decode fb_Lw_law 260 = .ok (.invokestatic 72, 3) := by decide +kernel
theorem fx_Lw_law_263 : decode fb_Lw_law 263 = .ok (.istore 6, 2) := by decide +kernel
theorem fx_Lw_law_265 : decode fb_Lw_law 265 = .ok (.aload_n 2, 1) := by decide +kernel
theorem fx_Lw_law_266 : decode fb_Lw_law 266 = .ok (.aload_n 0, 1) := by decide +kernel
theorem fx_Lw_law_267 : decode fb_Lw_law 267 = .ok (.iload 5, 2) := by decide +kernel
theorem fx_Lw_law_269 : decode fb_Lw_law 269 = .ok (.iconst 1, 1) := by decide +kernel
theorem fx_Lw_law_270 : decode fb_Lw_law 270 = .ok (.iadd, 1) := by decide +kernel
theorem fx_Lw_law_271 : decode fb_Lw_law 271 = .ok (.iaload, 1) := by decide +kernel
theorem fx_Lw_law_272 : decode fb_Lw_law 272 = .ok (.aload_n 0, 1) := by decide +kernel
theorem fx_Lw_law_273 : decode fb_Lw_law 273 = .ok (.iload 5, 2) := by decide +kernel
theorem fx_Lw_law_275 : decode fb_Lw_law 275 = .ok (.iconst 2, 1) := by decide +kernel
theorem fx_Lw_law_276 : decode fb_Lw_law 276 = .ok (.iadd, 1) := by decide +kernel
theorem fx_Lw_law_277 : decode fb_Lw_law 277 = .ok (.iaload, 1) := by decide +kernel
theorem fx_Lw_law_278 : decode fb_Lw_law 278 = .ok (.aload_n 0, 1) := by decide +kernel
theorem fx_Lw_law_279 : decode fb_Lw_law 279 = .ok (.iload 5, 2) := by decide +kernel
theorem fx_Lw_law_281 : decode fb_Lw_law 281 = .ok (.iconst 3, 1) := by decide +kernel
theorem fx_Lw_law_282 : decode fb_Lw_law 282 = .ok (.iadd, 1) := by decide +kernel
theorem fx_Lw_law_283 : decode fb_Lw_law 283 = .ok (.iaload, 1) := by decide +kernel
theorem fx_Lw_law_284 : decode fb_Lw_law 284 = .ok (.ifCond .eq 7, 3) := by decide +kernel
theorem fx_Lw_law_287 : decode fb_Lw_law 287 = .ok (.iconst 1, 1) := by decide +kernel
theorem fx_Lw_law_288 : decode fb_Lw_law 288 = .ok (.goto 4, 3) := by decide +kernel
theorem fx_Lw_law_291 : decode fb_Lw_law 291 = .ok (.iconst 0, 1) := by decide +kernel
theorem fx_Lw_law_292 : decode fb_Lw_law 292 = .ok (.invokevirtual 75, 3) := by decide +kernel
theorem fx_Lw_law_295 : decode fb_Lw_law 295 = .ok (.istore 7, 2) := by decide +kernel
theorem fx_Lw_law_297 : decode fb_Lw_law 297 = .ok (.aload_n 2, 1) := by decide +kernel
theorem fx_Lw_law_298 : decode fb_Lw_law 298 = .ok (.invokevirtual 64, 3) := by decide +kernel
theorem fx_Lw_law_301 : decode fb_Lw_law 301 = .ok (.iload 6, 2) := by decide +kernel
theorem fx_Lw_law_303 : decode fb_Lw_law 303 = .ok (.if_icmp .eq 5, 3) := by decide +kernel
theorem fx_Lw_law_306 : decode fb_Lw_law 306 = .ok (.iconst 0, 1) := by decide +kernel
theorem fx_Lw_law_307 : decode fb_Lw_law 307 = .ok (.ireturn, 1) := by decide +kernel
theorem fx_Lw_law_308 : decode fb_Lw_law 308 = .ok (.iload 6, 2) := by decide +kernel
theorem fx_Lw_law_310 : decode fb_Lw_law 310 = .ok (.ifCond .ne 15, 3) := by decide +kernel
theorem fx_Lw_law_313 : decode fb_Lw_law 313 = .ok (.aload_n 3, 1) := by decide +kernel
theorem fx_Lw_law_314 : decode fb_Lw_law 314 = .ok (.iconst 0, 1) := by decide +kernel
theorem fx_Lw_law_315 : decode fb_Lw_law 315 = .ok (.laload, 1) := by decide +kernel
theorem fx_Lw_law_316 : decode fb_Lw_law 316 = .ok (.iload 7, 2) := by decide +kernel
theorem fx_Lw_law_318 : decode fb_Lw_law 318 = .ok (.i2l, 1) := by decide +kernel
theorem fx_Lw_law_319 : decode fb_Lw_law 319 = .ok (.lcmp, 1) := by decide +kernel
theorem fx_Lw_law_320 : decode fb_Lw_law 320 = .ok (.ifCond .eq 5, 3) := by decide +kernel
theorem fx_Lw_law_323 : decode fb_Lw_law 323 = .ok (.iconst 0, 1) := by decide +kernel
theorem fx_Lw_law_324 : decode fb_Lw_law 324 = .ok (.ireturn, 1) := by decide +kernel
theorem fx_Lw_law_325 : decode fb_Lw_law 325 = .ok (.goto 589, 3) := by decide +kernel
theorem fx_Lw_law_328 : decode fb_Lw_law 328 = .ok (.aload_n 1, 1) := by decide +kernel
theorem fx_Lw_law_329 : decode fb_Lw_law 329 = .ok (.aload_n 0, 1) := by decide +kernel
theorem fx_Lw_law_330 : decode fb_Lw_law 330 = .ok (.iload 5, 2) := by decide +kernel
theorem fx_Lw_law_332 : decode fb_Lw_law 332 = .ok (.iconst 1, 1) := by decide +kernel
theorem fx_Lw_law_333 : decode fb_Lw_law 333 = .ok (.iadd, 1) := by decide +kernel
theorem fx_Lw_law_334 : decode fb_Lw_law 334 = .ok (.iaload, 1) := by decide +kernel
theorem fx_Lw_law_335 : decode fb_Lw_law 335 = .ok (.aload_n 0, 1) := by decide +kernel
theorem fx_Lw_law_336 : decode fb_Lw_law 336 = .ok (.iload 5, 2) := by decide +kernel
theorem fx_Lw_law_338 : decode fb_Lw_law 338 = .ok (.iconst 2, 1) := by decide +kernel
theorem fx_Lw_law_339 : decode fb_Lw_law 339 = .ok (.iadd, 1) := by decide +kernel
theorem fx_Lw_law_340 : decode fb_Lw_law 340 = .ok (.iaload, 1) := by decide +kernel
theorem fx_Lw_law_341 : decode fb_Lw_law 341 = .ok (.ifCond .eq 7, 3) := by decide +kernel
theorem fx_Lw_law_344 : decode fb_Lw_law 344 = .ok (.iconst 1, 1) := by decide +kernel
theorem fx_Lw_law_345 : decode fb_Lw_law 345 = .ok (.goto 4, 3) := by decide +kernel
theorem fx_Lw_law_348 : decode fb_Lw_law 348 = .ok (.iconst 0, 1) := by decide +kernel
theorem fx_Lw_law_349 : decode fb_Lw_law 349 = .ok (.aload_n 0, 1) := by decide +kernel
theorem fx_Lw_law_350 : decode fb_Lw_law 350 = .ok (.iload 5, 2) := by decide +kernel
theorem fx_Lw_law_352 : decode fb_Lw_law 352 = .ok (.iconst 3, 1) := by decide +kernel
theorem fx_Lw_law_353 : decode fb_Lw_law 353 = .ok (.iadd, 1) := by decide +kernel
theorem fx_Lw_law_354 : decode fb_Lw_law 354 = .ok (.iaload, 1) := by decide +kernel
theorem fx_Lw_law_355 : decode fb_Lw_law 355 = .ok (.aload_n 0, 1) := by decide +kernel
theorem fx_Lw_law_356 : decode fb_Lw_law 356 = .ok (.iload 5, 2) := by decide +kernel
theorem fx_Lw_law_358 : decode fb_Lw_law 358 = .ok (.iconst 4, 1) := by decide +kernel
theorem fx_Lw_law_359 : decode fb_Lw_law 359 = .ok (.iadd, 1) := by decide +kernel
theorem fx_Lw_law_360 : decode fb_Lw_law 360 = .ok (.iaload, 1) := by decide +kernel
theorem fx_Lw_law_361 : decode fb_Lw_law 361 = .ok (.aload_n 0, 1) := by decide +kernel
theorem fx_Lw_law_362 : decode fb_Lw_law 362 = .ok (.iload 5, 2) := by decide +kernel
theorem fx_Lw_law_364 : decode fb_Lw_law 364 = .ok (.iconst 5, 1) := by decide +kernel
theorem fx_Lw_law_365 : decode fb_Lw_law 365 = .ok (.iadd, 1) := by decide +kernel
theorem fx_Lw_law_366 : decode fb_Lw_law 366 = .ok (.iaload, 1) := by decide +kernel
theorem fx_Lw_law_367 : decode fb_Lw_law 367 = .ok (.i2d, 1) := by decide +kernel
theorem fx_Lw_law_368 : decode fb_Lw_law 368 = .ok (.ldc2_w 76, 3) := by decide +kernel
theorem fx_Lw_law_371 : decode fb_Lw_law 371 = .ok (.dmul, 1) := by decide +kernel
theorem fx_Lw_law_372 : decode fb_Lw_law 372 = .ok (.invokestatic 78, 3) := by decide +kernel
theorem fx_Lw_law_375 : decode fb_Lw_law 375 = .ok (.istore 6, 2) := by decide +kernel
theorem fx_Lw_law_377 : decode fb_Lw_law 377 = .ok (.aload_n 2, 1) := by decide +kernel
theorem fx_Lw_law_378 : decode fb_Lw_law 378 = .ok (.aload_n 0, 1) := by decide +kernel
theorem fx_Lw_law_379 : decode fb_Lw_law 379 = .ok (.iload 5, 2) := by decide +kernel
theorem fx_Lw_law_381 : decode fb_Lw_law 381 = .ok (.iconst 1, 1) := by decide +kernel
theorem fx_Lw_law_382 : decode fb_Lw_law 382 = .ok (.iadd, 1) := by decide +kernel
theorem fx_Lw_law_383 : decode fb_Lw_law 383 = .ok (.iaload, 1) := by decide +kernel
theorem fx_Lw_law_384 : decode fb_Lw_law 384 = .ok (.aload_n 0, 1) := by decide +kernel
theorem fx_Lw_law_385 : decode fb_Lw_law 385 = .ok (.iload 5, 2) := by decide +kernel
theorem fx_Lw_law_387 : decode fb_Lw_law 387 = .ok (.iconst 2, 1) := by decide +kernel
theorem fx_Lw_law_388 : decode fb_Lw_law 388 = .ok (.iadd, 1) := by decide +kernel
theorem fx_Lw_law_389 : decode fb_Lw_law 389 = .ok (.iaload, 1) := by decide +kernel
theorem fx_Lw_law_390 : decode fb_Lw_law 390 = .ok (.ifCond .eq 7, 3) := by decide +kernel
theorem fx_Lw_law_393 : decode fb_Lw_law 393 = .ok (.iconst 1, 1) := by decide +kernel
theorem fx_Lw_law_394 : decode fb_Lw_law 394 = .ok (.goto 4, 3) := by decide +kernel
theorem fx_Lw_law_397 : decode fb_Lw_law 397 = .ok (.iconst 0, 1) := by decide +kernel
theorem fx_Lw_law_398 : decode fb_Lw_law 398 = .ok (.aload_n 0, 1) := by decide +kernel
theorem fx_Lw_law_399 : decode fb_Lw_law 399 = .ok (.iload 5, 2) := by decide +kernel
theorem fx_Lw_law_401 : decode fb_Lw_law 401 = .ok (.iconst 3, 1) := by decide +kernel
theorem fx_Lw_law_402 : decode fb_Lw_law 402 = .ok (.iadd, 1) := by decide +kernel
theorem fx_Lw_law_403 : decode fb_Lw_law 403 = .ok (.iaload, 1) := by decide +kernel
theorem fx_Lw_law_404 : decode fb_Lw_law 404 = .ok (.aload_n 0, 1) := by decide +kernel
theorem fx_Lw_law_405 : decode fb_Lw_law 405 = .ok (.iload 5, 2) := by decide +kernel
theorem fx_Lw_law_407 : decode fb_Lw_law 407 = .ok (.iconst 4, 1) := by decide +kernel
theorem fx_Lw_law_408 : decode fb_Lw_law 408 = .ok (.iadd, 1) := by decide +kernel
theorem fx_Lw_law_409 : decode fb_Lw_law 409 = .ok (.iaload, 1) := by decide +kernel
theorem fx_Lw_law_410 : decode fb_Lw_law 410 = .ok (.aload_n 0, 1) := by decide +kernel
theorem fx_Lw_law_411 : decode fb_Lw_law 411 = .ok (.iload 5, 2) := by decide +kernel
theorem fx_Lw_law_413 : decode fb_Lw_law 413 = .ok (.iconst 5, 1) := by decide +kernel
theorem fx_Lw_law_414 : decode fb_Lw_law 414 = .ok (.iadd, 1) := by decide +kernel
theorem fx_Lw_law_415 : decode fb_Lw_law 415 = .ok (.iaload, 1) := by decide +kernel
theorem fx_Lw_law_416 : decode fb_Lw_law 416 = .ok (.i2d, 1) := by decide +kernel
theorem fx_Lw_law_417 : decode fb_Lw_law 417 = .ok (.ldc2_w 76, 3) := by decide +kernel
theorem fx_Lw_law_420 : decode fb_Lw_law 420 = .ok (.dmul, 1) := by decide +kernel
theorem fx_Lw_law_421 : decode fb_Lw_law 421 = .ok (.invokevirtual 81, 3) := by decide +kernel
theorem fx_Lw_law_424 : decode fb_Lw_law 424 = .ok (.aload_n 2, 1) := by decide +kernel
theorem fx_Lw_law_425 : decode fb_Lw_law 425 = .ok (.invokevirtual 64, 3) := by decide +kernel
theorem fx_Lw_law_428 : decode fb_Lw_law 428 = .ok (.iload 6, 2) := by decide +kernel
theorem fx_Lw_law_430 : decode fb_Lw_law 430 = .ok (.if_icmp .eq 5, 3) := by decide +kernel
theorem fx_Lw_law_433 : decode fb_Lw_law 433 = .ok (.iconst 0, 1) := by decide +kernel
theorem fx_Lw_law_434 : decode fb_Lw_law 434 = .ok (.ireturn, 1) := by decide +kernel
theorem fx_Lw_law_435 : decode fb_Lw_law 435 = .ok (.goto 479, 3) := by decide +kernel
theorem fx_Lw_law_438 : decode fb_Lw_law 438 = .ok (.aload_n 1, 1) := by decide +kernel
theorem fx_Lw_law_439 : decode fb_Lw_law 439 = .ok (.aload_n 0, 1) := by decide +kernel
theorem fx_Lw_law_440 : decode fb_Lw_law 440 = .ok (.iload 5, 2) := by decide +kernel
theorem fx_Lw_law_442 : decode fb_Lw_law 442 = .ok (.iconst 1, 1) := by decide +kernel
theorem fx_Lw_law_443 : decode fb_Lw_law 443 = .ok (.iadd, 1) := by decide +kernel
theorem fx_Lw_law_444 : decode fb_Lw_law 444 = .ok (.iaload, 1) := by decide +kernel
theorem fx_Lw_law_445 : decode fb_Lw_law 445 = .ok (.i2d, 1) := by decide +kernel
theorem fx_Lw_law_446 : decode fb_Lw_law 446 = .ok (.ldc2_w 76, 3) := by decide +kernel
theorem fx_Lw_law_449 : decode fb_Lw_law 449 = .ok (.dmul, 1) := by decide +kernel
theorem fx_Lw_law_450 : decode fb_Lw_law 450 = .ok (.aload 4, 2) := by decide +kernel
theorem fx_Lw_law_452 : decode fb_Lw_law 452 = .ok (.invokestatic 82, 3) := by decide +kernel
theorem fx_Lw_law_455 : decode fb_Lw_law 455 = .ok (.istore 6, 2) := by decide +kernel
theorem fx_Lw_law_457 : decode fb_Lw_law 457 = .ok (.aload_n 2, 1) := by decide +kernel
theorem fx_Lw_law_458 : decode fb_Lw_law 458 = .ok (.aload_n 0, 1) := by decide +kernel
theorem fx_Lw_law_459 : decode fb_Lw_law 459 = .ok (.iload 5, 2) := by decide +kernel
theorem fx_Lw_law_461 : decode fb_Lw_law 461 = .ok (.iconst 1, 1) := by decide +kernel
theorem fx_Lw_law_462 : decode fb_Lw_law 462 = .ok (.iadd, 1) := by decide +kernel
theorem fx_Lw_law_463 : decode fb_Lw_law 463 = .ok (.iaload, 1) := by decide +kernel
theorem fx_Lw_law_464 : decode fb_Lw_law 464 = .ok (.i2d, 1) := by decide +kernel
theorem fx_Lw_law_465 : decode fb_Lw_law 465 = .ok (.ldc2_w 76, 3) := by decide +kernel
theorem fx_Lw_law_468 : decode fb_Lw_law 468 = .ok (.dmul, 1) := by decide +kernel
theorem fx_Lw_law_469 : decode fb_Lw_law 469 = .ok (.invokevirtual 85, 3) := by decide +kernel
theorem fx_Lw_law_472 : decode fb_Lw_law 472 = .ok (.dstore 7, 2) := by decide +kernel
theorem fx_Lw_law_474 : decode fb_Lw_law 474 = .ok (.aload_n 2, 1) := by decide +kernel
theorem fx_Lw_law_475 : decode fb_Lw_law 475 = .ok (.invokevirtual 64, 3) := by decide +kernel
theorem fx_Lw_law_478 : decode fb_Lw_law 478 = .ok (.iload 6, 2) := by decide +kernel
theorem fx_Lw_law_480 : decode fb_Lw_law 480 = .ok (.if_icmp .eq 5, 3) := by decide +kernel
theorem fx_Lw_law_483 : decode fb_Lw_law 483 = .ok (.iconst 0, 1) := by decide +kernel
theorem fx_Lw_law_484 : decode fb_Lw_law 484 = .ok (.ireturn, 1) := by decide +kernel
theorem fx_Lw_law_485 : decode fb_Lw_law 485 = .ok (.iload 6, 2) := by decide +kernel
theorem fx_Lw_law_487 : decode fb_Lw_law 487 = .ok (.ifCond .ne 35, 3) := by decide +kernel
theorem fx_Lw_law_490 : decode fb_Lw_law 490 = .ok (.aload 4, 2) := by decide +kernel
theorem fx_Lw_law_492 : decode fb_Lw_law 492 = .ok (.iconst 0, 1) := by decide +kernel
theorem fx_Lw_law_493 : decode fb_Lw_law 493 = .ok (.daload, 1) := by decide +kernel
theorem fx_Lw_law_494 : decode fb_Lw_law 494 = .ok (.dload 7, 2) := by decide +kernel
theorem fx_Lw_law_496 : decode fb_Lw_law 496 = .ok (.dcmp .l, 1) := by decide +kernel
theorem fx_Lw_law_497 : decode fb_Lw_law 497 = .ok (.ifCond .eq 25, 3) := by decide +kernel
theorem fx_Lw_law_500 : decode fb_Lw_law 500 = .ok (.aload 4, 2) := by decide +kernel
theorem fx_Lw_law_502 : decode fb_Lw_law 502 = .ok (.iconst 0, 1) := by decide +kernel
theorem fx_Lw_law_503 : decode fb_Lw_law 503 = .ok (.daload, 1) := by decide +kernel
theorem fx_Lw_law_504 : decode fb_Lw_law 504 = .ok (.aload 4, 2) := by decide +kernel
theorem fx_Lw_law_506 : decode fb_Lw_law 506 = .ok (.iconst 0, 1) := by decide +kernel
theorem fx_Lw_law_507 : decode fb_Lw_law 507 = .ok (.daload, 1) := by decide +kernel
theorem fx_Lw_law_508 : decode fb_Lw_law 508 = .ok (.dcmp .l, 1) := by decide +kernel
theorem fx_Lw_law_509 : decode fb_Lw_law 509 = .ok (.ifCond .eq 11, 3) := by decide +kernel
theorem fx_Lw_law_512 : decode fb_Lw_law 512 = .ok (.dload 7, 2) := by decide +kernel
theorem fx_Lw_law_514 : decode fb_Lw_law 514 = .ok (.dload 7, 2) := by decide +kernel
theorem fx_Lw_law_516 : decode fb_Lw_law 516 = .ok (.dcmp .l, 1) := by decide +kernel
theorem fx_Lw_law_517 : decode fb_Lw_law 517 = .ok (.ifCond .ne 5, 3) := by decide +kernel
theorem fx_Lw_law_520 : decode fb_Lw_law 520 = .ok (.iconst 0, 1) := by decide +kernel
theorem fx_Lw_law_521 : decode fb_Lw_law 521 = .ok (.ireturn, 1) := by decide +kernel
theorem fx_Lw_law_522 : decode fb_Lw_law 522 = .ok (.goto 392, 3) := by decide +kernel
theorem fx_Lw_law_525 : decode fb_Lw_law 525 = .ok (.aload_n 1, 1) := by decide +kernel
theorem fx_Lw_law_526 : decode fb_Lw_law 526 = .ok (.aload_n 0, 1) := by decide +kernel
theorem fx_Lw_law_527 : decode fb_Lw_law 527 = .ok (.iload 5, 2) := by decide +kernel
theorem fx_Lw_law_529 : decode fb_Lw_law 529 = .ok (.iconst 1, 1) := by decide +kernel
theorem fx_Lw_law_530 : decode fb_Lw_law 530 = .ok (.iadd, 1) := by decide +kernel
theorem fx_Lw_law_531 : decode fb_Lw_law 531 = .ok (.iaload, 1) := by decide +kernel
theorem fx_Lw_law_532 : decode fb_Lw_law 532 = .ok (.aload_n 0, 1) := by decide +kernel
theorem fx_Lw_law_533 : decode fb_Lw_law 533 = .ok (.iload 5, 2) := by decide +kernel
theorem fx_Lw_law_535 : decode fb_Lw_law 535 = .ok (.iconst 2, 1) := by decide +kernel
theorem fx_Lw_law_536 : decode fb_Lw_law 536 = .ok (.iadd, 1) := by decide +kernel
theorem fx_Lw_law_537 : decode fb_Lw_law 537 = .ok (.iaload, 1) := by decide +kernel
theorem fx_Lw_law_538 : decode fb_Lw_law 538 = .ok (.aload_n 0, 1) := by decide +kernel
theorem fx_Lw_law_539 : decode fb_Lw_law 539 = .ok (.iload 5, 2) := by decide +kernel
theorem fx_Lw_law_541 : decode fb_Lw_law 541 = .ok (.iconst 3, 1) := by decide +kernel
theorem fx_Lw_law_542 : decode fb_Lw_law 542 = .ok (.iadd, 1) := by decide +kernel
theorem fx_Lw_law_543 : decode fb_Lw_law 543 = .ok (.iaload, 1) := by decide +kernel
theorem fx_Lw_law_544 : decode fb_Lw_law 544 = .ok (.aload_n 0, 1) := by decide +kernel
theorem fx_Lw_law_545 : decode fb_Lw_law 545 = .ok (.iload 5, 2) := by decide +kernel
theorem fx_Lw_law_547 : decode fb_Lw_law 547 = .ok (.iconst 4, 1) := by decide +kernel
theorem fx_Lw_law_548 : decode fb_Lw_law 548 = .ok (.iadd, 1) := by decide +kernel
theorem fx_Lw_law_549 : decode fb_Lw_law 549 = .ok (.iaload, 1) := by decide +kernel
theorem fx_Lw_law_550 : decode fb_Lw_law 550 = .ok (.aload_n 0, 1) := by decide +kernel
theorem fx_Lw_law_551 : decode fb_Lw_law 551 = .ok (.iload 5, 2) := by decide +kernel
theorem fx_Lw_law_553 : decode fb_Lw_law 553 = .ok (.iconst 5, 1) := by decide +kernel
theorem fx_Lw_law_554 : decode fb_Lw_law 554 = .ok (.iadd, 1) := by decide +kernel
theorem fx_Lw_law_555 : decode fb_Lw_law 555 = .ok (.iaload, 1) := by decide +kernel
theorem fx_Lw_law_556 : decode fb_Lw_law 556 = .ok (.aload_n 0, 1) := by decide +kernel
theorem fx_Lw_law_557 : decode fb_Lw_law 557 = .ok (.iload 5, 2) := by decide +kernel
theorem fx_Lw_law_559 : decode fb_Lw_law 559 = .ok (.bipush 6, 2) := by decide +kernel
theorem fx_Lw_law_561 : decode fb_Lw_law 561 = .ok (.iadd, 1) := by decide +kernel
theorem fx_Lw_law_562 : decode fb_Lw_law 562 = .ok (.iaload, 1) := by decide +kernel
theorem fx_Lw_law_563 : decode fb_Lw_law 563 = .ok (.aload_n 0, 1) := by decide +kernel
theorem fx_Lw_law_564 : decode fb_Lw_law 564 = .ok (.iload 5, 2) := by decide +kernel
theorem fx_Lw_law_566 : decode fb_Lw_law 566 = .ok (.bipush 7, 2) := by decide +kernel
theorem fx_Lw_law_568 : decode fb_Lw_law 568 = .ok (.iadd, 1) := by decide +kernel
theorem fx_Lw_law_569 : decode fb_Lw_law 569 = .ok (.iaload, 1) := by decide +kernel
theorem fx_Lw_law_570 : decode fb_Lw_law 570 = .ok (.aload_n 3, 1) := by decide +kernel
theorem fx_Lw_law_571 : decode fb_Lw_law 571 = .ok (.invokestatic 86, 3) := by decide +kernel
theorem fx_Lw_law_574 : decode fb_Lw_law 574 = .ok (.istore 6, 2) := by decide +kernel
theorem fx_Lw_law_576 : decode fb_Lw_law 576 = .ok (.aload_n 2, 1) := by decide +kernel
theorem fx_Lw_law_577 : decode fb_Lw_law 577 = .ok (.aload_n 0, 1) := by decide +kernel
theorem fx_Lw_law_578 : decode fb_Lw_law 578 = .ok (.iload 5, 2) := by decide +kernel
theorem fx_Lw_law_580 : decode fb_Lw_law 580 = .ok (.iconst 1, 1) := by decide +kernel
theorem fx_Lw_law_581 : decode fb_Lw_law 581 = .ok (.iadd, 1) := by decide +kernel
theorem fx_Lw_law_582 : decode fb_Lw_law 582 = .ok (.iaload, 1) := by decide +kernel
theorem fx_Lw_law_583 : decode fb_Lw_law 583 = .ok (.aload_n 0, 1) := by decide +kernel
theorem fx_Lw_law_584 : decode fb_Lw_law 584 = .ok (.iload 5, 2) := by decide +kernel
theorem fx_Lw_law_586 : decode fb_Lw_law 586 = .ok (.iconst 2, 1) := by decide +kernel
theorem fx_Lw_law_587 : decode fb_Lw_law 587 = .ok (.iadd, 1) := by decide +kernel
theorem fx_Lw_law_588 : decode fb_Lw_law 588 = .ok (.iaload, 1) := by decide +kernel
theorem fx_Lw_law_589 : decode fb_Lw_law 589 = .ok (.aload_n 0, 1) := by decide +kernel
theorem fx_Lw_law_590 : decode fb_Lw_law 590 = .ok (.iload 5, 2) := by decide +kernel
theorem fx_Lw_law_592 : decode fb_Lw_law 592 = .ok (.iconst 3, 1) := by decide +kernel
theorem fx_Lw_law_593 : decode fb_Lw_law 593 = .ok (.iadd, 1) := by decide +kernel
theorem fx_Lw_law_594 : decode fb_Lw_law 594 = .ok (.iaload, 1) := by decide +kernel
theorem fx_Lw_law_595 : decode fb_Lw_law 595 = .ok (.aload_n 0, 1) := by decide +kernel
theorem fx_Lw_law_596 : decode fb_Lw_law 596 = .ok (.iload 5, 2) := by decide +kernel
theorem fx_Lw_law_598 : decode fb_Lw_law 598 = .ok (.iconst 4, 1) := by decide +kernel
theorem fx_Lw_law_599 : decode fb_Lw_law 599 = .ok (.iadd, 1) := by decide +kernel
theorem fx_Lw_law_600 : decode fb_Lw_law 600 = .ok (.iaload, 1) := by decide +kernel
theorem fx_Lw_law_601 : decode fb_Lw_law 601 = .ok (.aload_n 0, 1) := by decide +kernel
theorem fx_Lw_law_602 : decode fb_Lw_law 602 = .ok (.iload 5, 2) := by decide +kernel
theorem fx_Lw_law_604 : decode fb_Lw_law 604 = .ok (.iconst 5, 1) := by decide +kernel
theorem fx_Lw_law_605 : decode fb_Lw_law 605 = .ok (.iadd, 1) := by decide +kernel
theorem fx_Lw_law_606 : decode fb_Lw_law 606 = .ok (.iaload, 1) := by decide +kernel
theorem fx_Lw_law_607 : decode fb_Lw_law 607 = .ok (.aload_n 0, 1) := by decide +kernel
theorem fx_Lw_law_608 : decode fb_Lw_law 608 = .ok (.iload 5, 2) := by decide +kernel
theorem fx_Lw_law_610 : decode fb_Lw_law 610 = .ok (.bipush 6, 2) := by decide +kernel
theorem fx_Lw_law_612 : decode fb_Lw_law 612 = .ok (.iadd, 1) := by decide +kernel
theorem fx_Lw_law_613 : decode fb_Lw_law 613 = .ok (.iaload, 1) := by decide +kernel
theorem fx_Lw_law_614 : decode fb_Lw_law 614 = .ok (.aload_n 0, 1) := by decide +kernel
theorem fx_Lw_law_615 : decode fb_Lw_law 615 = .ok (.iload 5, 2) := by decide +kernel
theorem fx_Lw_law_617 : decode fb_Lw_law 617 = .ok (.bipush 7, 2) := by decide +kernel
theorem fx_Lw_law_619 : decode fb_Lw_law 619 = .ok (.iadd, 1) := by decide +kernel
theorem fx_Lw_law_620 : decode fb_Lw_law 620 = .ok (.iaload, 1) := by decide +kernel
theorem fx_Lw_law_621 : decode fb_Lw_law 621 = .ok (.invokevirtual 89, 3) := by decide +kernel
theorem fx_Lw_law_624 : decode fb_Lw_law 624 = .ok (.istore 7, 2) := by decide +kernel
theorem fx_Lw_law_626 : decode fb_Lw_law 626 = .ok (.aload_n 2, 1) := by decide +kernel
theorem fx_Lw_law_627 : decode fb_Lw_law 627 = .ok (.invokevirtual 64, 3) := by decide +kernel
theorem fx_Lw_law_630 : decode fb_Lw_law 630 = .ok (.iload 6, 2) := by decide +kernel
theorem fx_Lw_law_632 : decode fb_Lw_law 632 = .ok (.if_icmp .eq 5, 3) := by decide +kernel
theorem fx_Lw_law_635 : decode fb_Lw_law 635 = .ok (.iconst 0, 1) := by decide +kernel
theorem fx_Lw_law_636 : decode fb_Lw_law 636 = .ok (.ireturn, 1) := by decide +kernel
theorem fx_Lw_law_637 : decode fb_Lw_law 637 = .ok (.iload 6, 2) := by decide +kernel
theorem fx_Lw_law_639 : decode fb_Lw_law 639 = .ok (.ifCond .ne 15, 3) := by decide +kernel
theorem fx_Lw_law_642 : decode fb_Lw_law 642 = .ok (.aload_n 3, 1) := by decide +kernel
theorem fx_Lw_law_643 : decode fb_Lw_law 643 = .ok (.iconst 0, 1) := by decide +kernel
theorem fx_Lw_law_644 : decode fb_Lw_law 644 = .ok (.laload, 1) := by decide +kernel
theorem fx_Lw_law_645 : decode fb_Lw_law 645 = .ok (.iload 7, 2) := by decide +kernel
theorem fx_Lw_law_647 : decode fb_Lw_law 647 = .ok (.i2l, 1) := by decide +kernel
theorem fx_Lw_law_648 : decode fb_Lw_law 648 = .ok (.lcmp, 1) := by decide +kernel
theorem fx_Lw_law_649 : decode fb_Lw_law 649 = .ok (.ifCond .eq 5, 3) := by decide +kernel
theorem fx_Lw_law_652 : decode fb_Lw_law 652 = .ok (.iconst 0, 1) := by decide +kernel
theorem fx_Lw_law_653 : decode fb_Lw_law 653 = .ok (.ireturn, 1) := by decide +kernel
theorem fx_Lw_law_654 : decode fb_Lw_law 654 = .ok (.goto 260, 3) := by decide +kernel
theorem fx_Lw_law_657 : decode fb_Lw_law 657 = .ok (.aload_n 1, 1) := by decide +kernel
theorem fx_Lw_law_658 : decode fb_Lw_law 658 = .ok (.aload_n 0, 1) := by decide +kernel
theorem fx_Lw_law_659 : decode fb_Lw_law 659 = .ok (.iload 5, 2) := by decide +kernel
theorem fx_Lw_law_661 : decode fb_Lw_law 661 = .ok (.iconst 1, 1) := by decide +kernel
theorem fx_Lw_law_662 : decode fb_Lw_law 662 = .ok (.iadd, 1) := by decide +kernel
theorem fx_Lw_law_663 : decode fb_Lw_law 663 = .ok (.iaload, 1) := by decide +kernel
theorem fx_Lw_law_664 : decode fb_Lw_law 664 = .ok (.aload_n 3, 1) := by decide +kernel
theorem fx_Lw_law_665 : decode fb_Lw_law 665 = .ok (.invokestatic 90, 3) := by decide +kernel
theorem fx_Lw_law_668 : decode fb_Lw_law 668 = .ok (.istore 6, 2) := by decide +kernel
theorem fx_Lw_law_670 : decode fb_Lw_law 670 = .ok (.aload_n 2, 1) := by decide +kernel
theorem fx_Lw_law_671 : decode fb_Lw_law 671 = .ok (.aload_n 0, 1) := by decide +kernel
theorem fx_Lw_law_672 : decode fb_Lw_law 672 = .ok (.iload 5, 2) := by decide +kernel
theorem fx_Lw_law_674 : decode fb_Lw_law 674 = .ok (.iconst 1, 1) := by decide +kernel
theorem fx_Lw_law_675 : decode fb_Lw_law 675 = .ok (.iadd, 1) := by decide +kernel
theorem fx_Lw_law_676 : decode fb_Lw_law 676 = .ok (.iaload, 1) := by decide +kernel
theorem fx_Lw_law_677 : decode fb_Lw_law 677 = .ok (.invokevirtual 93, 3) := by decide +kernel
theorem fx_Lw_law_680 : decode fb_Lw_law 680 = .ok (.istore 7, 2) := by decide +kernel
theorem fx_Lw_law_682 : decode fb_Lw_law 682 = .ok (.aload_n 2, 1) := by decide +kernel
theorem fx_Lw_law_683 : decode fb_Lw_law 683 = .ok (.invokevirtual 64, 3) := by decide +kernel
theorem fx_Lw_law_686 : decode fb_Lw_law 686 = .ok (.iload 6, 2) := by decide +kernel
theorem fx_Lw_law_688 : decode fb_Lw_law 688 = .ok (.if_icmp .eq 5, 3) := by decide +kernel
theorem fx_Lw_law_691 : decode fb_Lw_law 691 = .ok (.iconst 0, 1) := by decide +kernel
theorem fx_Lw_law_692 : decode fb_Lw_law 692 = .ok (.ireturn, 1) := by decide +kernel
theorem fx_Lw_law_693 : decode fb_Lw_law 693 = .ok (.iload 6, 2) := by decide +kernel
theorem fx_Lw_law_695 : decode fb_Lw_law 695 = .ok (.ifCond .ne 15, 3) := by decide +kernel
theorem fx_Lw_law_698 : decode fb_Lw_law 698 = .ok (.aload_n 3, 1) := by decide +kernel
theorem fx_Lw_law_699 : decode fb_Lw_law 699 = .ok (.iconst 0, 1) := by decide +kernel
theorem fx_Lw_law_700 : decode fb_Lw_law 700 = .ok (.laload, 1) := by decide +kernel
theorem fx_Lw_law_701 : decode fb_Lw_law 701 = .ok (.iload 7, 2) := by decide +kernel
theorem fx_Lw_law_703 : decode fb_Lw_law 703 = .ok (.i2l, 1) := by decide +kernel
theorem fx_Lw_law_704 : decode fb_Lw_law 704 = .ok (.lcmp, 1) := by decide +kernel
theorem fx_Lw_law_705 : decode fb_Lw_law 705 = .ok (.ifCond .eq 5, 3) := by decide +kernel
theorem fx_Lw_law_708 : decode fb_Lw_law 708 = .ok (.iconst 0, 1) := by decide +kernel
theorem fx_Lw_law_709 : decode fb_Lw_law 709 = .ok (.ireturn, 1) := by decide +kernel
theorem fx_Lw_law_710 : decode fb_Lw_law 710 = .ok (.goto 204, 3) := by decide +kernel
theorem fx_Lw_law_713 : decode fb_Lw_law 713 = .ok (.aload_n 1, 1) := by decide +kernel
theorem fx_Lw_law_714 : decode fb_Lw_law 714 = .ok (.aload_n 0, 1) := by decide +kernel
theorem fx_Lw_law_715 : decode fb_Lw_law 715 = .ok (.iload 5, 2) := by decide +kernel
theorem fx_Lw_law_717 : decode fb_Lw_law 717 = .ok (.iconst 1, 1) := by decide +kernel
theorem fx_Lw_law_718 : decode fb_Lw_law 718 = .ok (.iadd, 1) := by decide +kernel
theorem fx_Lw_law_719 : decode fb_Lw_law 719 = .ok (.iaload, 1) := by decide +kernel
theorem fx_Lw_law_720 : decode fb_Lw_law 720 = .ok (.aload_n 0, 1) := by decide +kernel
theorem fx_Lw_law_721 : decode fb_Lw_law 721 = .ok (.iload 5, 2) := by decide +kernel
theorem fx_Lw_law_723 : decode fb_Lw_law 723 = .ok (.iconst 2, 1) := by decide +kernel
theorem fx_Lw_law_724 : decode fb_Lw_law 724 = .ok (.iadd, 1) := by decide +kernel
theorem fx_Lw_law_725 : decode fb_Lw_law 725 = .ok (.iaload, 1) := by decide +kernel
theorem fx_Lw_law_726 : decode fb_Lw_law 726 = .ok (.aload_n 3, 1) := by decide +kernel
theorem fx_Lw_law_727 : decode fb_Lw_law 727 = .ok (.invokestatic 94, 3) := by decide +kernel
theorem fx_Lw_law_730 : decode fb_Lw_law 730 = .ok (.istore 6, 2) := by decide +kernel
theorem fx_Lw_law_732 : decode fb_Lw_law 732 = .ok (.aload_n 2, 1) := by decide +kernel
theorem fx_Lw_law_733 : decode fb_Lw_law 733 = .ok (.aload_n 0, 1) := by decide +kernel
theorem fx_Lw_law_734 : decode fb_Lw_law 734 = .ok (.iload 5, 2) := by decide +kernel
theorem fx_Lw_law_736 : decode fb_Lw_law 736 = .ok (.iconst 1, 1) := by decide +kernel
theorem fx_Lw_law_737 : decode fb_Lw_law 737 = .ok (.iadd, 1) := by decide +kernel
theorem fx_Lw_law_738 : decode fb_Lw_law 738 = .ok (.iaload, 1) := by decide +kernel
theorem fx_Lw_law_739 : decode fb_Lw_law 739 = .ok (.aload_n 0, 1) := by decide +kernel
theorem fx_Lw_law_740 : decode fb_Lw_law 740 = .ok (.iload 5, 2) := by decide +kernel
theorem fx_Lw_law_742 : decode fb_Lw_law 742 = .ok (.iconst 2, 1) := by decide +kernel
theorem fx_Lw_law_743 : decode fb_Lw_law 743 = .ok (.iadd, 1) := by decide +kernel
theorem fx_Lw_law_744 : decode fb_Lw_law 744 = .ok (.iaload, 1) := by decide +kernel
theorem fx_Lw_law_745 : decode fb_Lw_law 745 = .ok (.invokevirtual 97, 3) := by decide +kernel
theorem fx_Lw_law_748 : decode fb_Lw_law 748 = .ok (.istore 7, 2) := by decide +kernel
theorem fx_Lw_law_750 : decode fb_Lw_law 750 = .ok (.aload_n 2, 1) := by decide +kernel
theorem fx_Lw_law_751 : decode fb_Lw_law 751 = .ok (.invokevirtual 64, 3) := by decide +kernel
theorem fx_Lw_law_754 : decode fb_Lw_law 754 = .ok (.iload 6, 2) := by decide +kernel
theorem fx_Lw_law_756 : decode fb_Lw_law 756 = .ok (.if_icmp .eq 5, 3) := by decide +kernel
theorem fx_Lw_law_759 : decode fb_Lw_law 759 = .ok (.iconst 0, 1) := by decide +kernel
theorem fx_Lw_law_760 : decode fb_Lw_law 760 = .ok (.ireturn, 1) := by decide +kernel
theorem fx_Lw_law_761 : decode fb_Lw_law 761 = .ok (.iload 6, 2) := by decide +kernel
theorem fx_Lw_law_763 : decode fb_Lw_law 763 = .ok (.ifCond .ne 15, 3) := by decide +kernel
theorem fx_Lw_law_766 : decode fb_Lw_law 766 = .ok (.aload_n 3, 1) := by decide +kernel
theorem fx_Lw_law_767 : decode fb_Lw_law 767 = .ok (.iconst 0, 1) := by decide +kernel
theorem fx_Lw_law_768 : decode fb_Lw_law 768 = .ok (.laload, 1) := by decide +kernel
theorem fx_Lw_law_769 : decode fb_Lw_law 769 = .ok (.iload 7, 2) := by decide +kernel
theorem fx_Lw_law_771 : decode fb_Lw_law 771 = .ok (.i2l, 1) := by decide +kernel
theorem fx_Lw_law_772 : decode fb_Lw_law 772 = .ok (.lcmp, 1) := by decide +kernel
theorem fx_Lw_law_773 : decode fb_Lw_law 773 = .ok (.ifCond .eq 5, 3) := by decide +kernel
theorem fx_Lw_law_776 : decode fb_Lw_law 776 = .ok (.iconst 0, 1) := by decide +kernel
theorem fx_Lw_law_777 : decode fb_Lw_law 777 = .ok (.ireturn, 1) := by decide +kernel
theorem fx_Lw_law_778 : decode fb_Lw_law 778 = .ok (.goto 136, 3) := by decide +kernel
theorem fx_Lw_law_781 : decode fb_Lw_law 781 = .ok (.aload_n 1, 1) := by decide +kernel
theorem fx_Lw_law_782 : decode fb_Lw_law 782 = .ok (.aload_n 0, 1) := by decide +kernel
theorem fx_Lw_law_783 : decode fb_Lw_law 783 = .ok (.iload 5, 2) := by decide +kernel
theorem fx_Lw_law_785 : decode fb_Lw_law 785 = .ok (.iconst 1, 1) := by decide +kernel
theorem fx_Lw_law_786 : decode fb_Lw_law 786 = .ok (.iadd, 1) := by decide +kernel
theorem fx_Lw_law_787 : decode fb_Lw_law 787 = .ok (.iaload, 1) := by decide +kernel
theorem fx_Lw_law_788 : decode fb_Lw_law 788 = .ok (.aload 4, 2) := by decide +kernel
theorem fx_Lw_law_790 : decode fb_Lw_law 790 = .ok (.invokestatic 98, 3) := by decide +kernel
theorem fx_Lw_law_793 : decode fb_Lw_law 793 = .ok (.istore 6, 2) := by decide +kernel
theorem fx_Lw_law_795 : decode fb_Lw_law 795 = .ok (.aload_n 2, 1) := by decide +kernel
theorem fx_Lw_law_796 : decode fb_Lw_law 796 = .ok (.aload_n 0, 1) := by decide +kernel
theorem fx_Lw_law_797 : decode fb_Lw_law 797 = .ok (.iload 5, 2) := by decide +kernel
theorem fx_Lw_law_799 : decode fb_Lw_law 799 = .ok (.iconst 1, 1) := by decide +kernel
theorem fx_Lw_law_800 : decode fb_Lw_law 800 = .ok (.iadd, 1) := by decide +kernel
theorem fx_Lw_law_801 : decode fb_Lw_law 801 = .ok (.iaload, 1) := by decide +kernel
theorem fx_Lw_law_802 : decode fb_Lw_law 802 = .ok (.invokevirtual 101, 3) := by decide +kernel
theorem fx_Lw_law_805 : decode fb_Lw_law 805 = .ok (.dstore 7, 2) := by decide +kernel
theorem fx_Lw_law_807 : decode fb_Lw_law 807 = .ok (.aload_n 2, 1) := by decide +kernel
theorem fx_Lw_law_808 : decode fb_Lw_law 808 = .ok (.invokevirtual 64, 3) := by decide +kernel
theorem fx_Lw_law_811 : decode fb_Lw_law 811 = .ok (.iload 6, 2) := by decide +kernel
theorem fx_Lw_law_813 : decode fb_Lw_law 813 = .ok (.if_icmp .eq 5, 3) := by decide +kernel
theorem fx_Lw_law_816 : decode fb_Lw_law 816 = .ok (.iconst 0, 1) := by decide +kernel
theorem fx_Lw_law_817 : decode fb_Lw_law 817 = .ok (.ireturn, 1) := by decide +kernel
theorem fx_Lw_law_818 : decode fb_Lw_law 818 = .ok (.iload 6, 2) := by decide +kernel
theorem fx_Lw_law_820 : decode fb_Lw_law 820 = .ok (.ifCond .ne 35, 3) := by decide +kernel
theorem fx_Lw_law_823 : decode fb_Lw_law 823 = .ok (.aload 4, 2) := by decide +kernel
theorem fx_Lw_law_825 : decode fb_Lw_law 825 = .ok (.iconst 0, 1) := by decide +kernel
theorem fx_Lw_law_826 : decode fb_Lw_law 826 = .ok (.daload, 1) := by decide +kernel
theorem fx_Lw_law_827 : decode fb_Lw_law 827 = .ok (.dload 7, 2) := by decide +kernel
theorem fx_Lw_law_829 : decode fb_Lw_law 829 = .ok (.dcmp .l, 1) := by decide +kernel
theorem fx_Lw_law_830 : decode fb_Lw_law 830 = .ok (.ifCond .eq 25, 3) := by decide +kernel
theorem fx_Lw_law_833 : decode fb_Lw_law 833 = .ok (.aload 4, 2) := by decide +kernel
theorem fx_Lw_law_835 : decode fb_Lw_law 835 = .ok (.iconst 0, 1) := by decide +kernel
theorem fx_Lw_law_836 : decode fb_Lw_law 836 = .ok (.daload, 1) := by decide +kernel
theorem fx_Lw_law_837 : decode fb_Lw_law 837 = .ok (.aload 4, 2) := by decide +kernel
theorem fx_Lw_law_839 : decode fb_Lw_law 839 = .ok (.iconst 0, 1) := by decide +kernel
theorem fx_Lw_law_840 : decode fb_Lw_law 840 = .ok (.daload, 1) := by decide +kernel
theorem fx_Lw_law_841 : decode fb_Lw_law 841 = .ok (.dcmp .l, 1) := by decide +kernel
theorem fx_Lw_law_842 : decode fb_Lw_law 842 = .ok (.ifCond .eq 11, 3) := by decide +kernel
theorem fx_Lw_law_845 : decode fb_Lw_law 845 = .ok (.dload 7, 2) := by decide +kernel
theorem fx_Lw_law_847 : decode fb_Lw_law 847 = .ok (.dload 7, 2) := by decide +kernel
theorem fx_Lw_law_849 : decode fb_Lw_law 849 = .ok (.dcmp .l, 1) := by decide +kernel
theorem fx_Lw_law_850 : decode fb_Lw_law 850 = .ok (.ifCond .ne 5, 3) := by decide +kernel
theorem fx_Lw_law_853 : decode fb_Lw_law 853 = .ok (.iconst 0, 1) := by decide +kernel
theorem fx_Lw_law_854 : decode fb_Lw_law 854 = .ok (.ireturn, 1) := by decide +kernel
theorem fx_Lw_law_855 : decode fb_Lw_law 855 = .ok (.goto 59, 3) := by decide +kernel
theorem fx_Lw_law_858 : decode fb_Lw_law 858 = .ok (.aload_n 1, 1) := by decide +kernel
theorem fx_Lw_law_859 : decode fb_Lw_law 859 = .ok (.aload_n 0, 1) := by decide +kernel
theorem fx_Lw_law_860 : decode fb_Lw_law 860 = .ok (.iload 5, 2) := by decide +kernel
theorem fx_Lw_law_862 : decode fb_Lw_law 862 = .ok (.iconst 1, 1) := by decide +kernel
theorem fx_Lw_law_863 : decode fb_Lw_law 863 = .ok (.iadd, 1) := by decide +kernel
theorem fx_Lw_law_864 : decode fb_Lw_law 864 = .ok (.iaload, 1) := by decide +kernel
theorem fx_Lw_law_865 : decode fb_Lw_law 865 = .ok (.aload_n 3, 1) := by decide +kernel
theorem fx_Lw_law_866 : decode fb_Lw_law 866 = .ok (.invokestatic 102, 3) := by decide +kernel
theorem fx_Lw_law_869 : decode fb_Lw_law 869 = .ok (.istore 6, 2) := by decide +kernel
theorem fx_Lw_law_871 : decode fb_Lw_law 871 = .ok (.aload_n 2, 1) := by decide +kernel
theorem fx_Lw_law_872 : decode fb_Lw_law 872 = .ok (.aload_n 0, 1) := by decide +kernel
theorem fx_Lw_law_873 : decode fb_Lw_law 873 = .ok (.iload 5, 2) := by decide +kernel
theorem fx_Lw_law_875 : decode fb_Lw_law 875 = .ok (.iconst 1, 1) := by decide +kernel
theorem fx_Lw_law_876 : decode fb_Lw_law 876 = .ok (.iadd, 1) := by decide +kernel
theorem fx_Lw_law_877 : decode fb_Lw_law 877 = .ok (.iaload, 1) := by decide +kernel
theorem fx_Lw_law_878 : decode fb_Lw_law 878 = .ok (.invokevirtual 104, 3) := by decide +kernel
theorem fx_Lw_law_881 : decode fb_Lw_law 881 = .ok (.istore 7, 2) := by decide +kernel
theorem fx_Lw_law_883 : decode fb_Lw_law 883 = .ok (.aload_n 2, 1) := by decide +kernel
theorem fx_Lw_law_884 : decode fb_Lw_law 884 = .ok (.invokevirtual 64, 3) := by decide +kernel
theorem fx_Lw_law_887 : decode fb_Lw_law 887 = .ok (.iload 6, 2) := by decide +kernel
theorem fx_Lw_law_889 : decode fb_Lw_law 889 = .ok (.if_icmp .eq 5, 3) := by decide +kernel
theorem fx_Lw_law_892 : decode fb_Lw_law 892 = .ok (.iconst 0, 1) := by decide +kernel
theorem fx_Lw_law_893 : decode fb_Lw_law 893 = .ok (.ireturn, 1) := by decide +kernel
theorem fx_Lw_law_894 : decode fb_Lw_law 894 = .ok (.iload 6, 2) := by decide +kernel
theorem fx_Lw_law_896 : decode fb_Lw_law 896 = .ok (.ifCond .ne 15, 3) := by decide +kernel
theorem fx_Lw_law_899 : decode fb_Lw_law 899 = .ok (.aload_n 3, 1) := by decide +kernel
theorem fx_Lw_law_900 : decode fb_Lw_law 900 = .ok (.iconst 0, 1) := by decide +kernel
theorem fx_Lw_law_901 : decode fb_Lw_law 901 = .ok (.laload, 1) := by decide +kernel
theorem fx_Lw_law_902 : decode fb_Lw_law 902 = .ok (.iload 7, 2) := by decide +kernel
theorem fx_Lw_law_904 : decode fb_Lw_law 904 = .ok (.i2l, 1) := by decide +kernel
theorem fx_Lw_law_905 : decode fb_Lw_law 905 = .ok (.lcmp, 1) := by decide +kernel
theorem fx_Lw_law_906 : decode fb_Lw_law 906 = .ok (.ifCond .eq 5, 3) := by decide +kernel
theorem fx_Lw_law_909 : decode fb_Lw_law 909 = .ok (.iconst 0, 1) := by decide +kernel
theorem fx_Lw_law_910 : decode fb_Lw_law 910 = .ok (.ireturn, 1) := by decide +kernel
theorem fx_Lw_law_911 : decode fb_Lw_law 911 = .ok (.goto 3, 3) := by decide +kernel
theorem fx_Lw_law_914 : decode fb_Lw_law 914 = .ok (.iinc 5 8, 3) := by decide +kernel
theorem fx_Lw_law_917 : decode fb_Lw_law 917 = .ok (.goto (-889), 3) := by decide +kernel
theorem fx_Lw_law_920 : decode fb_Lw_law 920 = .ok (.iconst 1, 1) := by decide +kernel
theorem fx_Lw_law_921 : decode fb_Lw_law 921 = .ok (.ireturn, 1) := by decide +kernel
