theorem d_L_law_0 : decode c_L_law 0 = .ok (.new 8, 3) := by decide +kernel
theorem d_L_law_3 : decode c_L_law 3 = .ok (.dup, 1) := by decide +kernel
theorem d_L_law_4 : decode c_L_law 4 = .ok (.invokespecial 64, 3) := by decide +kernel
theorem d_L_law_7 : decode c_L_law 7 = .ok (.astore_n 1, 1) := by decide +kernel
theorem d_L_law_8 : decode c_L_law 8 = .ok (.new 65, 3) := by decide +kernel
theorem d_L_law_11 : decode c_L_law 11 = .ok (.dup, 1) := by decide +kernel
theorem d_L_law_12 : decode c_L_law 12 = .ok (.invokespecial 67, 3) := by decide +kernel
theorem d_L_law_15 : decode c_L_law 15 = .ok (.astore_n 2, 1) := by decide +kernel
theorem d_L_law_16 : decode c_L_law 16 = .ok (.iconst 1, 1) := by decide +kernel
theorem d_L_law_17 : decode c_L_law 17 = .ok (.newarray .long, 2) := by decide +kernel
theorem d_L_law_19 : decode c_L_law 19 = .ok (.astore_n 3, 1) := by decide +kernel
theorem d_L_law_20 : decode c_L_law 20 = .ok (.iconst 0, 1) := by decide +kernel
theorem d_L_law_21 : decode c_L_law 21 = .ok (.istore 4, 2) := by decide +kernel
theorem d_L_law_23 : decode c_L_law 23 = .ok (.iload 4, 2) := by decide +kernel
theorem d_L_law_25 : decode c_L_law 25 = .ok (.aload_n 0, 1) := by decide +kernel
theorem d_L_law_26 : decode c_L_law 26 = .ok (.arraylength, 1) := by decide +kernel
theorem d_L_law_27 : decode c_L_law 27 = .ok (.iconst 5, 1) := by decide +kernel
theorem d_L_law_28 : decode c_L_law 28 = .ok (.isub, 1) := by decide +kernel
theorem d_L_law_29 : decode c_L_law 29 = .ok (.if_icmp .gt 851, 3) := by decide +kernel
theorem d_L_law_32 : decode c_L_law 32 = .ok (.aload_n 0, 1) := by decide +kernel
theorem d_L_law_33 : decode c_L_law 33 = .ok (.iload 4, 2) := by decide +kernel
theorem d_L_law_35 : decode c_L_law 35 = .ok (.iaload, 1) := by decide +kernel
theorem d_L_law_36 : decode c_L_law 36 = .ok (.bipush 15, 2) := by decide +kernel
theorem d_L_law_38 : decode c_L_law 38 = .ok (.iand, 1) := by decide +kernel
theorem d_L_law_39 : decode c_L_law 39 = .ok (.tableswitch 835 0 12 #[65, 101, 161, 221, 301, 373, 433, 489, 545, 601, 657, 736, 780], 65) := by decide +kernel
theorem d_L_law_104 : decode c_L_law 104 = .ok (.aload_n 1, 1) := by decide +kernel
theorem d_L_law_105 : decode c_L_law 105 = .ok (.aload_n 0, 1) := by decide +kernel
theorem d_L_law_106 : decode c_L_law 106 = .ok (.iload 4, 2) := by decide +kernel
theorem d_L_law_108 : decode c_L_law 108 = .ok (.iconst 1, 1) := by decide +kernel
theorem d_L_law_109 : decode c_L_law 109 = .ok (.iadd, 1) := by decide +kernel
theorem d_L_law_110 : decode c_L_law 110 = .ok (.iaload, 1) := by decide +kernel
theorem d_L_law_111 : decode c_L_law 111 = .ok (.invokestatic 68, 3) := by decide +kernel
theorem d_L_law_114 : decode c_L_law 114 = .ok (.istore 5, 2) := by decide +kernel
theorem d_L_law_116 : decode c_L_law 116 = .ok (.aload_n 2, 1) := by decide +kernel
theorem d_L_law_117 : decode c_L_law 117 = .ok (.aload_n 0, 1) := by decide +kernel
theorem d_L_law_118 : decode c_L_law 118 = .ok (.iload 4, 2) := by decide +kernel
theorem d_L_law_120 : decode c_L_law 120 = .ok (.iconst 1, 1) := by decide +kernel
theorem d_L_law_121 : decode c_L_law 121 = .ok (.iadd, 1) := by decide +kernel
theorem d_L_law_122 : decode c_L_law 122 = .ok (.iaload, 1) := by decide +kernel
theorem d_L_law_123 : decode c_L_law 123 = .ok (.invokevirtual 73, 3) := by decide +kernel
theorem d_L_law_126 : decode c_L_law 126 = .ok (.aload_n 2, 1) := by decide +kernel
theorem d_L_law_127 : decode c_L_law 127 = .ok (.invokevirtual 74, 3) := by decide +kernel
theorem d_L_law_130 : decode c_L_law 130 = .ok (.iload 5, 2) := by decide +kernel
theorem d_L_law_132 : decode c_L_law 132 = .ok (.if_icmp .eq 5, 3) := by decide +kernel
theorem d_L_law_135 : decode c_L_law 135 = .ok (.iconst 0, 1) := by decide +kernel
theorem d_L_law_136 : decode c_L_law 136 = .ok (.ireturn, 1) := by decide +kernel
theorem d_L_law_137 : decode c_L_law 137 = .ok (.goto 737, 3) := by decide +kernel
theorem d_L_law_140 : decode c_L_law 140 = .ok (.aload_n 1, 1) := by decide +kernel
theorem d_L_law_141 : decode c_L_law 141 = .ok (.aload_n 0, 1) := by decide +kernel
theorem d_L_law_142 : decode c_L_law 142 = .ok (.iload 4, 2) := by decide +kernel
theorem d_L_law_144 : decode c_L_law 144 = .ok (.iconst 1, 1) := by decide +kernel
theorem d_L_law_145 : decode c_L_law 145 = .ok (.iadd, 1) := by decide +kernel
theorem d_L_law_146 : decode c_L_law 146 = .ok (.iaload, 1) := by decide +kernel
theorem d_L_law_147 : decode c_L_law 147 = .ok (.aload_n 0, 1) := by decide +kernel
theorem d_L_law_148 : decode c_L_law 148 = .ok (.iload 4, 2) := by decide +kernel
theorem d_L_law_150 : decode c_L_law 150 = .ok (.iconst 2, 1) := by decide +kernel
theorem d_L_law_151 : decode c_L_law 151 = .ok (.iadd, 1) := by decide +kernel
theorem d_L_law_152 : decode c_L_law 152 = .ok (.iaload, 1) := by decide +kernel
theorem d_L_law_153 : decode c_L_law 153 = .ok (.aload_n 0, 1) := by decide +kernel
theorem d_L_law_154 : decode c_L_law 154 = .ok (.iload 4, 2) := by decide +kernel
theorem d_L_law_156 : decode c_L_law 156 = .ok (.iconst 3, 1) := by decide +kernel
theorem d_L_law_157 : decode c_L_law 157 = .ok (.iadd, 1) := by decide +kernel
theorem d_L_law_158 : decode c_L_law 158 = .ok (.iaload, 1) := by decide +kernel
theorem d_L_law_159 : decode c_L_law 159 = .ok (.invokestatic 77, 3) := by decide +kernel
theorem d_L_law_162 : decode c_L_law 162 = .ok (.istore 5, 2) := by decide +kernel
theorem d_L_law_164 : decode c_L_law 164 = .ok (.aload_n 2, 1) := by decide +kernel
theorem d_L_law_165 : decode c_L_law 165 = .ok (.aload_n 0, 1) := by decide +kernel
theorem d_L_law_166 : decode c_L_law 166 = .ok (.iload 4, 2) := by decide +kernel
theorem d_L_law_168 : decode c_L_law 168 = .ok (.iconst 1, 1) := by decide +kernel
theorem d_L_law_169 : decode c_L_law 169 = .ok (.iadd, 1) := by decide +kernel
theorem d_L_law_170 : decode c_L_law 170 = .ok (.iaload, 1) := by decide +kernel
theorem d_L_law_171 : decode c_L_law 171 = .ok (.aload_n 0, 1) := by decide +kernel
theorem d_L_law_172 : decode c_L_law 172 = .ok (.iload 4, 2) := by decide +kernel
theorem d_L_law_174 : decode c_L_law 174 = .ok (.iconst 2, 1) := by decide +kernel
theorem d_L_law_175 : decode c_L_law 175 = .ok (.iadd, 1) := by decide +kernel
theorem d_L_law_176 : decode c_L_law 176 = .ok (.iaload, 1) := by decide +kernel
theorem d_L_law_177 : decode c_L_law 177 = .ok (.aload_n 0, 1) := by decide +kernel
theorem d_L_law_178 : decode c_L_law 178 = .ok (.iload 4, 2) := by decide +kernel
theorem d_L_law_180 : decode c_L_law 180 = .ok (.iconst 3, 1) := by decide +kernel
theorem d_L_law_181 : decode c_L_law 181 = .ok (.iadd, 1) := by decide +kernel
theorem d_L_law_182 : decode c_L_law 182 = .ok (.iaload, 1) := by decide +kernel
theorem d_L_law_183 : decode c_L_law 183 = .ok (.invokevirtual 80, 3) := by decide +kernel
theorem d_L_law_186 : decode c_L_law 186 = .ok (.aload_n 2, 1) := by decide +kernel
theorem d_L_law_187 : decode c_L_law 187 = .ok (.invokevirtual 74, 3) := by decide +kernel
theorem d_L_law_190 : decode c_L_law 190 = .ok (.iload 5, 2) := by decide +kernel
theorem d_L_law_192 : decode c_L_law 192 = .ok (.if_icmp .eq 5, 3) := by decide +kernel
theorem d_L_law_195 : decode c_L_law 195 = .ok (.iconst 0, 1) := by decide +kernel
theorem d_L_law_196 : decode c_L_law 196 = .ok (.ireturn, 1) := by decide +kernel
theorem d_L_law_197 : decode c_L_law 197 = .ok (.goto 677, 3) := by decide +kernel
theorem d_L_law_200 : decode c_L_law 200 = .ok (.aload_n 1, 1) := by decide +kernel
theorem d_L_law_201 : decode c_L_law 201 = .ok (.aload_n 0, 1) := by decide +kernel
theorem d_L_law_202 : decode c_L_law 202 = .ok (.iload 4, 2) := by decide +kernel
theorem d_L_law_204 : decode c_L_law 204 = .ok (.iconst 1, 1) := by decide +kernel
theorem d_L_law_205 : decode c_L_law 205 = .ok (.iadd, 1) := by decide +kernel
theorem d_L_law_206 : decode c_L_law 206 = .ok (.iaload, 1) := by decide +kernel
theorem d_L_law_207 : decode c_L_law 207 = .ok (.aload_n 0, 1) := by decide +kernel
theorem d_L_law_208 : decode c_L_law 208 = .ok (.iload 4, 2) := by decide +kernel
theorem d_L_law_210 : decode c_L_law 210 = .ok (.iconst 2, 1) := by decide +kernel
theorem d_L_law_211 : decode c_L_law 211 = .ok (.iadd, 1) := by decide +kernel
theorem d_L_law_212 : decode c_L_law 212 = .ok (.iaload, 1) := by decide +kernel
theorem d_L_law_213 : decode c_L_law 213 = .ok (.aload_n 0, 1) := by decide +kernel
theorem d_L_law_214 : decode c_L_law 214 = .ok (.iload 4, 2) := by decide +kernel
theorem d_L_law_216 : decode c_L_law 216 = .ok (.iconst 3, 1) := by decide +kernel
theorem d_L_law_217 : decode c_L_law 217 = .ok (.iadd, 1) := by decide +kernel
theorem d_L_law_218 : decode c_L_law 218 = .ok (.iaload, 1) := by decide +kernel
theorem d_L_law_219 : decode c_L_law 219 = .ok (.invokestatic 81, 3) := by decide +kernel
theorem d_L_law_222 : decode c_L_law 222 = .ok (.istore 5, 2) := by decide +kernel
theorem d_L_law_224 : decode c_L_law 224 = .ok (.aload_n 2, 1) := by decide +kernel
theorem d_L_law_225 : decode c_L_law 225 = .ok (.aload_n 0, 1) := by decide +kernel
theorem d_L_law_226 : decode c_L_law 226 = .ok (.iload 4, 2) := by decide +kernel
theorem d_L_law_228 : decode c_L_law 228 = .ok (.iconst 1, 1) := by decide +kernel
theorem d_L_law_229 : decode c_L_law 229 = .ok (.iadd, 1) := by decide +kernel
theorem d_L_law_230 : decode c_L_law 230 = .ok (.iaload, 1) := by decide +kernel
theorem d_L_law_231 : decode c_L_law 231 = .ok (.aload_n 0, 1) := by decide +kernel
theorem d_L_law_232 : decode c_L_law 232 = .ok (.iload 4, 2) := by decide +kernel
theorem d_L_law_234 : decode c_L_law 234 = .ok (.iconst 2, 1) := by decide +kernel
theorem d_L_law_235 : decode c_L_law 235 = .ok (.iadd, 1) := by decide +kernel
theorem d_L_law_236 : decode c_L_law 236 = .ok (.iaload, 1) := by decide +kernel
theorem d_L_law_237 : decode c_L_law 237 = .ok (.aload_n 0, 1) := by decide +kernel
theorem d_L_law_238 : decode c_L_law 238 = .ok (.iload 4, 2) := by decide +kernel
theorem d_L_law_240 : decode c_L_law 240 = .ok (.iconst 3, 1) := by decide +kernel
theorem d_L_law_241 : decode c_L_law 241 = .ok (.iadd, 1) := by decide +kernel
theorem d_L_law_242 : decode c_L_law 242 = .ok (.iaload, 1) := by decide +kernel
theorem d_L_law_243 : decode c_L_law 243 = .ok (.invokevirtual 83, 3) := by decide +kernel
theorem d_L_law_246 : decode c_L_law 246 = .ok (.aload_n 2, 1) := by decide +kernel
theorem d_L_law_247 : decode c_L_law 247 = .ok (.invokevirtual 74, 3) := by decide +kernel
theorem d_L_law_250 : decode c_L_law 250 = .ok (.iload 5, 2) := by decide +kernel
theorem d_L_law_252 : decode c_L_law 252 = .ok (.if_icmp .eq 5, 3) := by decide +kernel
theorem d_L_law_255 : decode c_L_law 255 = .ok (.iconst 0, 1) := by decide +kernel
theorem d_L_law_256 : decode c_L_law 256 = .ok (.ireturn, 1) := by decide +kernel
theorem d_L_law_257 : decode c_L_law 257 = .ok (.goto 617, 3) := by decide +kernel
theorem d_L_law_260 : decode c_L_law 260 = .ok (.aload_n 1, 1) := by decide +kernel
theorem d_L_law_261 : decode c_L_law 261 = .ok (.aload_n 0, 1) := by decide +kernel
theorem d_L_law_262 : decode c_L_law 262 = .ok (.iload 4, 2) := by decide +kernel
theorem d_L_law_264 : decode c_L_law 264 = .ok (.iconst 1, 1) := by decide +kernel
theorem d_L_law_265 : decode c_L_law 265 = .ok (.iadd, 1) := by decide +kernel
theorem d_L_law_266 : decode c_L_law 266 = .ok (.iaload, 1) := by decide +kernel
theorem d_L_law_267 : decode c_L_law 267 = .ok (.aload_n 0, 1) := by decide +kernel
theorem d_L_law_268 : decode c_L_law 268 = .ok (.iload 4, 2) := by decide +kernel
theorem d_L_law_270 : decode c_L_law 270 = .ok (.iconst 2, 1) := by decide +kernel
theorem d_L_law_271 : decode c_L_law 271 = .ok (.iadd, 1) := by decide +kernel
theorem d_L_law_272 : decode c_L_law 272 = .ok (.iaload, 1) := by decide +kernel
theorem d_L_law_273 : decode c_L_law 273 = .ok (.aload_n 0, 1) := by decide +kernel
theorem d_L_law_274 : decode c_L_law 274 = .ok (.iload 4, 2) := by decide +kernel
theorem d_L_law_276 : decode c_L_law 276 = .ok (.iconst 3, 1) := by decide +kernel
theorem d_L_law_277 : decode c_L_law 277 = .ok (.iadd, 1) := by decide +kernel
theorem d_L_law_278 : decode c_L_law 278 = .ok (.iaload, 1) := by decide +kernel
theorem d_L_law_279 : decode c_L_law 279 = .ok (.aload_n 3, 1) := by decide +kernel
theorem d_L_law_280 : decode c_L_law 280 = .ok (.invokestatic 84, 3) := by decide +kernel
theorem d_L_law_283 : decode c_L_law 283 = .ok (.istore 5, 2) := by decide +kernel
theorem d_L_law_285 : decode c_L_law 285 = .ok (.aload_n 2, 1) := by decide +kernel
theorem d_L_law_286 : decode c_L_law 286 = .ok (.aload_n 0, 1) := by decide +kernel
theorem d_L_law_287 : decode c_L_law 287 = .ok (.iload 4, 2) := by decide +kernel
theorem d_L_law_289 : decode c_L_law 289 = .ok (.iconst 1, 1) := by decide +kernel
theorem d_L_law_290 : decode c_L_law 290 = .ok (.iadd, 1) := by decide +kernel
theorem d_L_law_291 : decode c_L_law 291 = .ok (.iaload, 1) := by decide +kernel
theorem d_L_law_292 : decode c_L_law 292 = .ok (.aload_n 0, 1) := by decide +kernel
theorem d_L_law_293 : decode c_L_law 293 = .ok (.iload 4, 2) := by decide +kernel
theorem d_L_law_295 : decode c_L_law 295 = .ok (.iconst 2, 1) := by decide +kernel
theorem d_L_law_296 : decode c_L_law 296 = .ok (.iadd, 1) := by decide +kernel
theorem d_L_law_297 : decode c_L_law 297 = .ok (.iaload, 1) := by decide +kernel
theorem d_L_law_298 : decode c_L_law 298 = .ok (.aload_n 0, 1) := by decide +kernel
theorem d_L_law_299 : decode c_L_law 299 = .ok (.iload 4, 2) := by decide +kernel
theorem d_L_law_301 : decode c_L_law 301 = .ok (.iconst 3, 1) := by decide +kernel
theorem d_L_law_302 : decode c_L_law 302 = .ok (.iadd, 1) := by decide +kernel
theorem d_L_law_303 : decode c_L_law 303 = .ok (.iaload, 1) := by decide +kernel
theorem d_L_law_304 : decode c_L_law 304 = .ok (.invokevirtual 87, 3) := by decide +kernel
theorem d_L_law_307 : decode c_L_law 307 = .ok (.istore 6, 2) := by decide +kernel
theorem d_L_law_309 : decode c_L_law 309 = .ok (.aload_n 2, 1) := by decide +kernel
theorem d_L_law_310 : decode c_L_law 310 = .ok (.invokevirtual 74, 3) := by decide +kernel
theorem d_L_law_313 : decode c_L_law 313 = .ok (.iload 5, 2) := by decide +kernel
theorem d_L_law_315 : decode c_L_law 315 = .ok (.if_icmp .eq 5, 3) := by decide +kernel
theorem d_L_law_318 : decode c_L_law 318 = .ok (.iconst 0, 1) := by decide +kernel
theorem d_L_law_319 : decode c_L_law 319 = .ok (.ireturn, 1) := by decide +kernel
theorem d_L_law_320 : decode c_L_law 320 = .ok (.iload 5, 2) := by decide +kernel
theorem d_L_law_322 : decode c_L_law 322 = .ok (.ifCond .ne 15, 3) := by decide +kernel
theorem d_L_law_325 : decode c_L_law 325 = .ok (.aload_n 3, 1) := by decide +kernel
theorem d_L_law_326 : decode c_L_law 326 = .ok (.iconst 0, 1) := by decide +kernel
theorem d_L_law_327 : decode c_L_law 327 = .ok (.laload, 1) := by decide +kernel
theorem d_L_law_328 : decode c_L_law 328 = .ok (.iload 6, 2) := by decide +kernel
theorem d_L_law_330 : decode c_L_law 330 = .ok (.i2l, 1) := by decide +kernel
theorem d_L_law_331 : decode c_L_law 331 = .ok (.lcmp, 1) := by decide +kernel
theorem d_L_law_332 : decode c_L_law 332 = .ok (.ifCond .eq 5, 3) := by decide +kernel
theorem d_L_law_335 : decode c_L_law 335 = .ok (.iconst 0, 1) := by decide +kernel
theorem d_L_law_336 : decode c_L_law 336 = .ok (.ireturn, 1) := by decide +kernel
theorem d_L_law_337 : decode c_L_law 337 = .ok (.goto 537, 3) := by decide +kernel
theorem d_L_law_340 : decode c_L_law 340 = .ok (.aload_n 1, 1) := by decide +kernel
theorem d_L_law_341 : decode c_L_law 341 = .ok (.aload_n 0, 1) := by decide +kernel
theorem d_L_law_342 : decode c_L_law 342 = .ok (.iload 4, 2) := by decide +kernel
theorem d_L_law_344 : decode c_L_law 344 = .ok (.iconst 1, 1) := by decide +kernel
theorem d_L_law_345 : decode c_L_law 345 = .ok (.iadd, 1) := by decide +kernel
theorem d_L_law_346 : decode c_L_law 346 = .ok (.iaload, 1) := by decide +kernel
theorem d_L_law_347 : decode c_L_law 347 = .ok (.aload_n 0, 1) := by decide +kernel
theorem d_L_law_348 : decode c_L_law 348 = .ok (.iload 4, 2) := by decide +kernel
theorem d_L_law_350 : decode c_L_law 350 = .ok (.iconst 2, 1) := by decide +kernel
theorem d_L_law_351 : decode c_L_law 351 = .ok (.iadd, 1) := by decide +kernel
theorem d_L_law_352 : decode c_L_law 352 = .ok (.iaload, 1) := by decide +kernel
theorem d_L_law_353 : decode c_L_law 353 = .ok (.aload_n 0, 1) := by decide +kernel
theorem d_L_law_354 : decode c_L_law 354 = .ok (.iload 4, 2) := by decide +kernel
theorem d_L_law_356 : decode c_L_law 356 = .ok (.iconst 3, 1) := by decide +kernel
theorem d_L_law_357 : decode c_L_law 357 = .ok (.iadd, 1) := by decide +kernel
theorem d_L_law_358 : decode c_L_law 358 = .ok (.iaload, 1) := by decide +kernel
theorem d_L_law_359 : decode c_L_law 359 = .ok (.aload_n 0, 1) := by decide +kernel
theorem d_L_law_360 : decode c_L_law 360 = .ok (.iload 4, 2) := by decide +kernel
theorem d_L_law_362 : decode c_L_law 362 = .ok (.iconst 4, 1) := by decide +kernel
theorem d_L_law_363 : decode c_L_law 363 = .ok (.iadd, 1) := by decide +kernel
theorem d_L_law_364 : decode c_L_law 364 = .ok (.iaload, 1) := by decide +kernel
theorem d_L_law_365 : decode c_L_law 365 = .ok (.invokestatic 88, 3) := by decide +kernel
theorem d_L_law_368 : decode c_L_law 368 = .ok (.istore 5, 2) := by decide +kernel
theorem d_L_law_370 : decode c_L_law 370 = .ok (.aload_n 2, 1) := by decide +kernel
theorem d_L_law_371 : decode c_L_law 371 = .ok (.aload_n 0, 1) := by decide +kernel
theorem d_L_law_372 : decode c_L_law 372 = .ok (.iload 4, 2) := by decide +kernel
theorem d_L_law_374 : decode c_L_law 374 = .ok (.iconst 1, 1) := by decide +kernel
theorem d_L_law_375 : decode c_L_law 375 = .ok (.iadd, 1) := by decide +kernel
theorem d_L_law_376 : decode c_L_law 376 = .ok (.iaload, 1) := by decide +kernel
theorem d_L_law_377 : decode c_L_law 377 = .ok (.aload_n 0, 1) := by decide +kernel
theorem d_L_law_378 : decode c_L_law 378 = .ok (.iload 4, 2) := by decide +kernel
theorem d_L_law_380 : decode c_L_law 380 = .ok (.iconst 2, 1) := by decide +kernel
theorem d_L_law_381 : decode c_L_law 381 = .ok (.iadd, 1) := by decide +kernel
theorem d_L_law_382 : decode c_L_law 382 = .ok (.iaload, 1) := by decide +kernel
theorem d_L_law_383 : decode c_L_law 383 = .ok (.aload_n 0, 1) := by decide +kernel
theorem d_L_law_384 : decode c_L_law 384 = .ok (.iload 4, 2) := by decide +kernel
theorem d_L_law_386 : decode c_L_law 386 = .ok (.iconst 3, 1) := by decide +kernel
theorem d_L_law_387 : decode c_L_law 387 = .ok (.iadd, 1) := by decide +kernel
theorem d_L_law_388 : decode c_L_law 388 = .ok (.iaload, 1) := by decide +kernel
theorem d_L_law_389 : decode c_L_law 389 = .ok (.aload_n 0, 1) := by decide +kernel
theorem d_L_law_390 : decode c_L_law 390 = .ok (.iload 4, 2) := by decide +kernel
theorem d_L_law_392 : decode c_L_law 392 = .ok (.iconst 4, 1) := by decide +kernel
theorem d_L_law_393 : decode c_L_law 393 = .ok (.iadd, 1) := by decide +kernel
theorem d_L_law_394 : decode c_L_law 394 = .ok (.iaload, 1) := by decide +kernel
theorem d_L_law_395 : decode c_L_law 395 = .ok (.invokevirtual 91, 3) := by decide +kernel
theorem d_L_law_398 : decode c_L_law 398 = .ok (.aload_n 2, 1) := by decide +kernel
theorem d_L_law_399 : decode c_L_law 399 = .ok (.invokevirtual 74, 3) := by decide +kernel
theorem d_L_law_402 : decode c_L_law 402 = .ok (.iload 5, 2) := by decide +kernel
theorem d_L_law_404 : decode c_L_law 404 = .ok (.if_icmp .eq 5, 3) := by decide +kernel
theorem d_L_law_407 : decode c_L_law 407 = .ok (.iconst 0, 1) := by decide +kernel
theorem d_L_law_408 : decode c_L_law 408 = .ok (.ireturn, 1) := by decide +kernel
theorem d_L_law_409 : decode c_L_law 409 = .ok (.goto 465, 3) := by decide +kernel
theorem d_L_law_412 : decode c_L_law 412 = .ok (.aload_n 1, 1) := by decide +kernel
theorem d_L_law_413 : decode c_L_law 413 = .ok (.aload_n 0, 1) := by decide +kernel
theorem d_L_law_414 : decode c_L_law 414 = .ok (.iload 4, 2) := by decide +kernel
theorem d_L_law_416 : decode c_L_law 416 = .ok (.iconst 1, 1) := by decide +kernel
theorem d_L_law_417 : decode c_L_law 417 = .ok (.iadd, 1) := by decide +kernel
theorem d_L_law_418 : decode c_L_law 418 = .ok (.iaload, 1) := by decide +kernel
theorem d_L_law_419 : decode c_L_law 419 = .ok (.aload_n 0, 1) := by decide +kernel
theorem d_L_law_420 : decode c_L_law 420 = .ok (.iload 4, 2) := by decide +kernel
theorem d_L_law_422 : decode c_L_law 422 = .ok (.iconst 2, 1) := by decide +kernel
theorem d_L_law_423 : decode c_L_law 423 = .ok (.iadd, 1) := by decide +kernel
theorem d_L_law_424 : decode c_L_law 424 = .ok (.iaload, 1) := by decide +kernel
theorem d_L_law_425 : decode c_L_law 425 = .ok (.aload_n 0, 1) := by decide +kernel
theorem d_L_law_426 : decode c_L_law 426 = .ok (.iload 4, 2) := by decide +kernel
theorem d_L_law_428 : decode c_L_law 428 = .ok (.iconst 3, 1) := by decide +kernel
theorem d_L_law_429 : decode c_L_law 429 = .ok (.iadd, 1) := by decide +kernel
theorem d_L_law_430 : decode c_L_law 430 = .ok (.iaload, 1) := by decide +kernel
theorem d_L_law_431 : decode c_L_law 431 = .ok (.invokestatic 92, 3) := by decide +kernel
theorem d_L_law_434 : decode c_L_law 434 = .ok (.istore 5, 2) := by decide +kernel
theorem d_L_law_436 : decode c_L_law 436 = .ok (.aload_n 2, 1) := by decide +kernel
theorem d_L_law_437 : decode c_L_law 437 = .ok (.aload_n 0, 1) := by decide +kernel
theorem d_L_law_438 : decode c_L_law 438 = .ok (.iload 4, 2) := by decide +kernel
theorem d_L_law_440 : decode c_L_law 440 = .ok (.iconst 1, 1) := by decide +kernel
theorem d_L_law_441 : decode c_L_law 441 = .ok (.iadd, 1) := by decide +kernel
theorem d_L_law_442 : decode c_L_law 442 = .ok (.iaload, 1) := by decide +kernel
theorem d_L_law_443 : decode c_L_law 443 = .ok (.aload_n 0, 1) := by decide +kernel
theorem d_L_law_444 : decode c_L_law 444 = .ok (.iload 4, 2) := by decide +kernel
theorem d_L_law_446 : decode c_L_law 446 = .ok (.iconst 2, 1) := by decide +kernel
theorem d_L_law_447 : decode c_L_law 447 = .ok (.iadd, 1) := by decide +kernel
theorem d_L_law_448 : decode c_L_law 448 = .ok (.iaload, 1) := by decide +kernel
theorem d_L_law_449 : decode c_L_law 449 = .ok (.aload_n 0, 1) := by decide +kernel
theorem d_L_law_450 : decode c_L_law 450 = .ok (.iload 4, 2) := by decide +kernel
theorem d_L_law_452 : decode c_L_law 452 = .ok (.iconst 3, 1) := by decide +kernel
theorem d_L_law_453 : decode c_L_law 453 = .ok (.iadd, 1) := by decide +kernel
theorem d_L_law_454 : decode c_L_law 454 = .ok (.iaload, 1) := by decide +kernel
theorem d_L_law_455 : decode c_L_law 455 = .ok (.invokevirtual 94, 3) := by decide +kernel
theorem d_L_law_458 : decode c_L_law 458 = .ok (.aload_n 2, 1) := by decide +kernel
theorem d_L_law_459 : decode c_L_law 459 = .ok (.invokevirtual 74, 3) := by decide +kernel
theorem d_L_law_462 : decode c_L_law 462 = .ok (.iload 5, 2) := by decide +kernel
theorem d_L_law_464 : decode c_L_law 464 = .ok (.if_icmp .eq 5, 3) := by decide +kernel
theorem d_L_law_467 : decode c_L_law 467 = .ok (.iconst 0, 1) := by decide +kernel
theorem d_L_law_468 : decode c_L_law 468 = .ok (.ireturn, 1) := by decide +kernel
theorem d_L_law_469 : decode c_L_law 469 = .ok (.goto 405, 3) := by decide +kernel
theorem d_L_law_472 : decode c_L_law 472 = .ok (.aload_n 1, 1) := by decide +kernel
theorem d_L_law_473 : decode c_L_law 473 = .ok (.aload_n 0, 1) := by decide +kernel
theorem d_L_law_474 : decode c_L_law 474 = .ok (.iload 4, 2) := by decide +kernel
theorem d_L_law_476 : decode c_L_law 476 = .ok (.iconst 1, 1) := by decide +kernel
theorem d_L_law_477 : decode c_L_law 477 = .ok (.iadd, 1) := by decide +kernel
theorem d_L_law_478 : decode c_L_law 478 = .ok (.iaload, 1) := by decide +kernel
theorem d_L_law_479 : decode c_L_law 479 = .ok (.aload_n 3, 1) := by decide +kernel
theorem d_L_law_480 : decode c_L_law 480 = .ok (.invokestatic 95, 3) := by decide +kernel
theorem d_L_law_483 : decode c_L_law 483 = .ok (.istore 5, 2) := by decide +kernel
theorem d_L_law_485 : decode c_L_law 485 = .ok (.aload_n 2, 1) := by decide +kernel
theorem d_L_law_486 : decode c_L_law 486 = .ok (.aload_n 0, 1) := by decide +kernel
theorem d_L_law_487 : decode c_L_law 487 = .ok (.iload 4, 2) := by decide +kernel
theorem d_L_law_489 : decode c_L_law 489 = .ok (.iconst 1, 1) := by decide +kernel
theorem d_L_law_490 : decode c_L_law 490 = .ok (.iadd, 1) := by decide +kernel
theorem d_L_law_491 : decode c_L_law 491 = .ok (.iaload, 1) := by decide +kernel
theorem d_L_law_492 : decode c_L_law 492 = .ok (.invokevirtual 98, 3) := by decide +kernel
theorem d_L_law_495 : decode c_L_law 495 = .ok (.istore 6, 2) := by decide +kernel
theorem d_L_law_497 : decode c_L_law 497 = .ok (.aload_n 2, 1) := by decide +kernel
theorem d_L_law_498 : decode c_L_law 498 = .ok (.invokevirtual 74, 3) := by decide +kernel
theorem d_L_law_501 : decode c_L_law 501 = .ok (.iload 5, 2) := by decide +kernel
theorem d_L_law_503 : decode c_L_law 503 = .ok (.if_icmp .eq 5, 3) := by decide +kernel
theorem d_L_law_506 : decode c_L_law 506 = .ok (.iconst 0, 1) := by decide +kernel
theorem d_L_law_507 : decode c_L_law 507 = .ok (.ireturn, 1) := by decide +kernel
theorem d_L_law_508 : decode c_L_law 508 = .ok (.iload 5, 2) := by decide +kernel
theorem d_L_law_510 : decode c_L_law 510 = .ok (.ifCond .ne 15, 3) := by decide +kernel
theorem d_L_law_513 : decode c_L_law 513 = .ok (.aload_n 3, 1) := by decide +kernel
theorem d_L_law_514 : decode c_L_law 514 = .ok (.iconst 0, 1) := by decide +kernel
theorem d_L_law_515 : decode c_L_law 515 = .ok (.laload, 1) := by decide +kernel
theorem d_L_law_516 : decode c_L_law 516 = .ok (.iload 6, 2) := by decide +kernel
theorem d_L_law_518 : decode c_L_law 518 = .ok (.i2l, 1) := by decide +kernel
theorem d_L_law_519 : decode c_L_law 519 = .ok (.lcmp, 1) := by decide +kernel
theorem d_L_law_520 : decode c_L_law 520 = .ok (.ifCond .eq 5, 3) := by decide +kernel
theorem d_L_law_523 : decode c_L_law 523 = .ok (.iconst 0, 1) := by decide +kernel
theorem d_L_law_524 : decode c_L_law 524 = .ok (.ireturn, 1) := by decide +kernel
theorem d_L_law_525 : decode c_L_law 525 = .ok (.goto 349, 3) := by decide +kernel
theorem d_L_law_528 : decode c_L_law 528 = .ok (.aload_n 1, 1) := by decide +kernel
theorem d_L_law_529 : decode c_L_law 529 = .ok (.aload_n 0, 1) := by decide +kernel
theorem d_L_law_530 : decode c_L_law 530 = .ok (.iload 4, 2) := by decide +kernel
theorem d_L_law_532 : decode c_L_law 532 = .ok (.iconst 1, 1) := by decide +kernel
theorem d_L_law_533 : decode c_L_law 533 = .ok (.iadd, 1) := by decide +kernel
theorem d_L_law_534 : decode c_L_law 534 = .ok (.iaload, 1) := by decide +kernel
theorem d_L_law_535 : decode c_L_law 535 = .ok (.aload_n 3, 1) := by decide +kernel
theorem d_L_law_536 : decode c_L_law 536 = .ok (.invokestatic 99, 3) := by decide +kernel
theorem d_L_law_539 : decode c_L_law 539 = .ok (.istore 5, 2) := by decide +kernel
theorem d_L_law_541 : decode c_L_law 541 = .ok (.aload_n 2, 1) := by decide +kernel
theorem d_L_law_542 : decode c_L_law 542 = .ok (.aload_n 0, 1) := by decide +kernel
theorem d_L_law_543 : decode c_L_law 543 = .ok (.iload 4, 2) := by decide +kernel
theorem d_L_law_545 : decode c_L_law 545 = .ok (.iconst 1, 1) := by decide +kernel
theorem d_L_law_546 : decode c_L_law 546 = .ok (.iadd, 1) := by decide +kernel
theorem d_L_law_547 : decode c_L_law 547 = .ok (.iaload, 1) := by decide +kernel
theorem d_L_law_548 : decode c_L_law 548 = .ok (.invokevirtual 101, 3) := by decide +kernel
theorem d_L_law_551 : decode c_L_law 551 = .ok (.istore 6, 2) := by decide +kernel
theorem d_L_law_553 : decode c_L_law 553 = .ok (.aload_n 2, 1) := by decide +kernel
theorem d_L_law_554 : decode c_L_law 554 = .ok (.invokevirtual 74, 3) := by decide +kernel
theorem d_L_law_557 : decode c_L_law 557 = .ok (.iload 5, 2) := by decide +kernel
theorem d_L_law_559 : decode c_L_law 559 = .ok (.if_icmp .eq 5, 3) := by decide +kernel
theorem d_L_law_562 : decode c_L_law 562 = .ok (.iconst 0, 1) := by decide +kernel
theorem d_L_law_563 : decode c_L_law 563 = .ok (.ireturn, 1) := by decide +kernel
theorem d_L_law_564 : decode c_L_law 564 = .ok (.iload 5, 2) := by decide +kernel
theorem d_L_law_566 : decode c_L_law 566 = .ok (.ifCond .ne 15, 3) := by decide +kernel
theorem d_L_law_569 : decode c_L_law 569 = .ok (.aload_n 3, 1) := by decide +kernel
theorem d_L_law_570 : decode c_L_law 570 = .ok (.iconst 0, 1) := by decide +kernel
theorem d_L_law_571 : decode c_L_law 571 = .ok (.laload, 1) := by decide +kernel
theorem d_L_law_572 : decode c_L_law 572 = .ok (.iload 6, 2) := by decide +kernel
theorem d_L_law_574 : decode c_L_law 574 = .ok (.i2l, 1) := by decide +kernel
theorem d_L_law_575 : decode c_L_law 575 = .ok (.lcmp, 1) := by decide +kernel
theorem d_L_law_576 : decode c_L_law 576 = .ok (.ifCond .eq 5, 3) := by decide +kernel
theorem d_L_law_579 : decode c_L_law 579 = .ok (.iconst 0, 1) := by decide +kernel
theorem d_L_law_580 : decode c_L_law 580 = .ok (.ireturn, 1) := by decide +kernel
theorem d_L_law_581 : decode c_L_law 581 = .ok (.goto 293, 3) := by decide +kernel
theorem d_L_law_584 : decode c_L_law 584 = .ok (.aload_n 1, 1) := by decide +kernel
theorem d_L_law_585 : decode c_L_law 585 = .ok (.aload_n 0, 1) := by decide +kernel
theorem d_L_law_586 : decode c_L_law 586 = .ok (.iload 4, 2) := by decide +kernel
theorem d_L_law_588 : decode c_L_law 588 = .ok (.iconst 1, 1) := by decide +kernel
theorem d_L_law_589 : decode c_L_law 589 = .ok (.iadd, 1) := by decide +kernel
theorem d_L_law_590 : decode c_L_law 590 = .ok (.iaload, 1) := by decide +kernel
theorem d_L_law_591 : decode c_L_law 591 = .ok (.aload_n 3, 1) := by decide +kernel
theorem d_L_law_592 : decode c_L_law 592 = .ok (.invokestatic 102, 3) := by decide +kernel
theorem d_L_law_595 : decode c_L_law 595 = .ok (.istore 5, 2) := by decide +kernel
theorem d_L_law_597 : decode c_L_law 597 = .ok (.aload_n 2, 1) := by decide +kernel
theorem d_L_law_598 : decode c_L_law 598 = .ok (.aload_n 0, 1) := by decide +kernel
theorem d_L_law_599 : decode c_L_law 599 = .ok (.iload 4, 2) := by decide +kernel
theorem d_L_law_601 : decode c_L_law 601 = .ok (.iconst 1, 1) := by decide +kernel
theorem d_L_law_602 : decode c_L_law 602 = .ok (.iadd, 1) := by decide +kernel
theorem d_L_law_603 : decode c_L_law 603 = .ok (.iaload, 1) := by decide +kernel
theorem d_L_law_604 : decode c_L_law 604 = .ok (.invokevirtual 104, 3) := by decide +kernel
theorem d_L_law_607 : decode c_L_law 607 = .ok (.istore 6, 2) := by decide +kernel
theorem d_L_law_609 : decode c_L_law 609 = .ok (.aload_n 2, 1) := by decide +kernel
theorem d_L_law_610 : decode c_L_law 610 = .ok (.invokevirtual 74, 3) := by decide +kernel
theorem d_L_law_613 : decode c_L_law 613 = .ok (.iload 5, 2) := by decide +kernel
theorem d_L_law_615 : decode c_L_law 615 = .ok (.if_icmp .eq 5, 3) := by decide +kernel
theorem d_L_law_618 : decode c_L_law 618 = .ok (.iconst 0, 1) := by decide +kernel
theorem d_L_law_619 : decode c_L_law 619 = .ok (.ireturn, 1) := by decide +kernel
theorem d_L_law_620 : decode c_L_law 620 = .ok (.iload 5, 2) := by decide +kernel
theorem d_L_law_622 : decode c_L_law 622 = .ok (.ifCond .ne 15, 3) := by decide +kernel
theorem d_L_law_625 : decode c_L_law 625 = .ok (.aload_n 3, 1) := by decide +kernel
theorem d_L_law_626 : decode c_L_law 626 = .ok (.iconst 0, 1) := by decide +kernel
theorem d_L_law_627 : decode c_L_law 627 = .ok (.laload, 1) := by decide +kernel
theorem d_L_law_628 : decode c_L_law 628 = .ok (.iload 6, 2) := by decide +kernel
theorem d_L_law_630 : decode c_L_law 630 = .ok (.i2l, 1) := by decide +kernel
theorem d_L_law_631 : decode c_L_law 631 = .ok (.lcmp, 1) := by decide +kernel
theorem d_L_law_632 : decode c_L_law 632 = .ok (.ifCond .eq 5, 3) := by decide +kernel
theorem d_L_law_635 : decode c_L_law 635 = .ok (.iconst 0, 1) := by decide +kernel
theorem d_L_law_636 : decode c_L_law 636 = .ok (.ireturn, 1) := by decide +kernel
theorem d_L_law_637 : decode c_L_law 637 = .ok (.goto 237, 3) := by decide +kernel
theorem d_L_law_640 : decode c_L_law 640 = .ok (.aload_n 1, 1) := by decide +kernel
theorem d_L_law_641 : decode c_L_law 641 = .ok (.aload_n 0, 1) := by decide +kernel
theorem d_L_law_642 : decode c_L_law 642 = .ok (.iload 4, 2) := by decide +kernel
theorem d_L_law_644 : decode c_L_law 644 = .ok (.iconst 1, 1) := by decide +kernel
theorem d_L_law_645 : decode c_L_law 645 = .ok (.iadd, 1) := by decide +kernel
theorem d_L_law_646 : decode c_L_law 646 = .ok (.iaload, 1) := by decide +kernel
theorem d_L_law_647 : decode c_L_law 647 = .ok (.aload_n 3, 1) := by decide +kernel
theorem d_L_law_648 : decode c_L_law 648 = .ok (.invokestatic 105, 3) := by decide +kernel
theorem d_L_law_651 : decode c_L_law 651 = .ok (.istore 5, 2) := by decide +kernel
theorem d_L_law_653 : decode c_L_law 653 = .ok (.aload_n 2, 1) := by decide +kernel
theorem d_L_law_654 : decode c_L_law 654 = .ok (.aload_n 0, 1) := by decide +kernel
theorem d_L_law_655 : decode c_L_law 655 = .ok (.iload 4, 2) := by decide +kernel
theorem d_L_law_657 : decode c_L_law 657 = .ok (.iconst 1, 1) := by decide +kernel
theorem d_L_law_658 : decode c_L_law 658 = .ok (.iadd, 1) := by decide +kernel
theorem d_L_law_659 : decode c_L_law 659 = .ok (.iaload, 1) := by decide +kernel
theorem d_L_law_660 : decode c_L_law 660 = .ok (.invokevirtual 107, 3) := by decide +kernel
theorem d_L_law_663 : decode c_L_law 663 = .ok (.istore 6, 2) := by decide +kernel
theorem d_L_law_665 : decode c_L_law 665 = .ok (.aload_n 2, 1) := by decide +kernel
theorem d_L_law_666 : decode c_L_law 666 = .ok (.invokevirtual 74, 3) := by decide +kernel
theorem d_L_law_669 : decode c_L_law 669 = .ok (.iload 5, 2) := by decide +kernel
theorem d_L_law_671 : decode c_L_law 671 = .ok (.if_icmp .eq 5, 3) := by decide +kernel
theorem d_L_law_674 : decode c_L_law 674 = .ok (.iconst 0, 1) := by decide +kernel
theorem d_L_law_675 : decode c_L_law 675 = .ok (.ireturn, 1) := by decide +kernel
theorem d_L_law_676 : decode c_L_law 676 = .ok (.iload 5, 2) := by decide +kernel
theorem d_L_law_678 : decode c_L_law 678 = .ok (.ifCond .ne 15, 3) := by decide +kernel
theorem d_L_law_681 : decode c_L_law 681 = .ok (.aload_n 3, 1) := by decide +kernel
theorem d_L_law_682 : decode c_L_law 682 = .ok (.iconst 0, 1) := by decide +kernel
theorem d_L_law_683 : decode c_L_law 683 = .ok (.laload, 1) := by decide +kernel
theorem d_L_law_684 : decode c_L_law 684 = .ok (.iload 6, 2) := by decide +kernel
theorem d_L_law_686 : decode c_L_law 686 = .ok (.i2l, 1) := by decide +kernel
theorem d_L_law_687 : decode c_L_law 687 = .ok (.lcmp, 1) := by decide +kernel
theorem d_L_law_688 : decode c_L_law 688 = .ok (.ifCond .eq 5, 3) := by decide +kernel
theorem d_L_law_691 : decode c_L_law 691 = .ok (.iconst 0, 1) := by decide +kernel
theorem d_L_law_692 : decode c_L_law 692 = .ok (.ireturn, 1) := by decide +kernel
theorem d_L_law_693 : decode c_L_law 693 = .ok (.goto 181, 3) := by decide +kernel
theorem d_L_law_696 : decode c_L_law 696 = .ok (.aload_n 1, 1) := by decide +kernel
theorem d_L_law_697 : decode c_L_law 697 = .ok (.aload_n 0, 1) := by decide +kernel
theorem d_L_law_698 : decode c_L_law 698 = .ok (.iload 4, 2) := by decide +kernel
theorem d_L_law_700 : decode c_L_law 700 = .ok (.iconst 1, 1) := by decide +kernel
theorem d_L_law_701 : decode c_L_law 701 = .ok (.iadd, 1) := by decide +kernel
theorem d_L_law_702 : decode c_L_law 702 = .ok (.iaload, 1) := by decide +kernel
theorem d_L_law_703 : decode c_L_law 703 = .ok (.aload_n 0, 1) := by decide +kernel
theorem d_L_law_704 : decode c_L_law 704 = .ok (.iload 4, 2) := by decide +kernel
theorem d_L_law_706 : decode c_L_law 706 = .ok (.iconst 2, 1) := by decide +kernel
theorem d_L_law_707 : decode c_L_law 707 = .ok (.iadd, 1) := by decide +kernel
theorem d_L_law_708 : decode c_L_law 708 = .ok (.iaload, 1) := by decide +kernel
theorem d_L_law_709 : decode c_L_law 709 = .ok (.aload_n 0, 1) := by decide +kernel
theorem d_L_law_710 : decode c_L_law 710 = .ok (.iload 4, 2) := by decide +kernel
theorem d_L_law_712 : decode c_L_law 712 = .ok (.iconst 3, 1) := by decide +kernel
theorem d_L_law_713 : decode c_L_law 713 = .ok (.iadd, 1) := by decide +kernel
theorem d_L_law_714 : decode c_L_law 714 = .ok (.iaload, 1) := by decide +kernel
theorem d_L_law_715 : decode c_L_law 715 = .ok (.aload_n 3, 1) := by decide +kernel
theorem d_L_law_716 : decode c_L_law 716 = .ok (.invokestatic 108, 3) := by decide +kernel
theorem d_L_law_719 : decode c_L_law 719 = .ok (.istore 5, 2) := by decide +kernel
theorem d_L_law_721 : decode c_L_law 721 = .ok (.aload_n 2, 1) := by decide +kernel
theorem d_L_law_722 : decode c_L_law 722 = .ok (.aload_n 0, 1) := by decide +kernel
theorem d_L_law_723 : decode c_L_law 723 = .ok (.iload 4, 2) := by decide +kernel
theorem d_L_law_725 : decode c_L_law 725 = .ok (.iconst 1, 1) := by decide +kernel
theorem d_L_law_726 : decode c_L_law 726 = .ok (.iadd, 1) := by decide +kernel
theorem d_L_law_727 : decode c_L_law 727 = .ok (.iaload, 1) := by decide +kernel
theorem d_L_law_728 : decode c_L_law 728 = .ok (.aload_n 0, 1) := by decide +kernel
theorem d_L_law_729 : decode c_L_law 729 = .ok (.iload 4, 2) := by decide +kernel
theorem d_L_law_731 : decode c_L_law 731 = .ok (.iconst 2, 1) := by decide +kernel
theorem d_L_law_732 : decode c_L_law 732 = .ok (.iadd, 1) := by decide +kernel
theorem d_L_law_733 : decode c_L_law 733 = .ok (.iaload, 1) := by decide +kernel
theorem d_L_law_734 : decode c_L_law 734 = .ok (.aload_n 0, 1) := by decide +kernel
theorem d_L_law_735 : decode c_L_law 735 = .ok (.iload 4, 2) := by decide +kernel
theorem d_L_law_737 : decode c_L_law 737 = .ok (.iconst 3, 1) := by decide +kernel
theorem d_L_law_738 : decode c_L_law 738 = .ok (.iadd, 1) := by decide +kernel
theorem d_L_law_739 : decode c_L_law 739 = .ok (.iaload, 1) := by decide +kernel
theorem d_L_law_740 : decode c_L_law 740 = .ok (.invokevirtual 110, 3) := by decide +kernel
theorem d_L_law_743 : decode c_L_law 743 = .ok (.lstore 6, 2) := by decide +kernel
theorem d_L_law_745 : decode c_L_law 745 = .ok (.aload_n 2, 1) := by decide +kernel
theorem d_L_law_746 : decode c_L_law 746 = .ok (.invokevirtual 74, 3) := by decide +kernel
theorem d_L_law_749 : decode c_L_law 749 = .ok (.iload 5, 2) := by decide +kernel
theorem d_L_law_751 : decode c_L_law 751 = .ok (.if_icmp .eq 5, 3) := by decide +kernel
theorem d_L_law_754 : decode c_L_law 754 = .ok (.iconst 0, 1) := by decide +kernel
theorem d_L_law_755 : decode c_L_law 755 = .ok (.ireturn, 1) := by decide +kernel
theorem d_L_law_756 : decode c_L_law 756 = .ok (.iload 5, 2) := by decide +kernel
theorem d_L_law_758 : decode c_L_law 758 = .ok (.ifCond .ne 14, 3) := by decide +kernel
theorem d_L_law_761 : decode c_L_law 761 = .ok (.aload_n 3, 1) := by decide +kernel
theorem d_L_law_762 : decode c_L_law 762 = .ok (.iconst 0, 1) := by decide +kernel
theorem d_L_law_763 : decode c_L_law 763 = .ok (.laload, 1) := by decide +kernel
theorem d_L_law_764 : decode c_L_law 764 = .ok (.lload 6, 2) := by decide +kernel
theorem d_L_law_766 : decode c_L_law 766 = .ok (.lcmp, 1) := by decide +kernel
theorem d_L_law_767 : decode c_L_law 767 = .ok (.ifCond .eq 5, 3) := by decide +kernel
theorem d_L_law_770 : decode c_L_law 770 = .ok (.iconst 0, 1) := by decide +kernel
theorem d_L_law_771 : decode c_L_law 771 = .ok (.ireturn, 1) := by decide +kernel
theorem d_L_law_772 : decode c_L_law 772 = .ok (.goto 102, 3) := by decide +kernel
theorem d_L_law_775 : decode c_L_law 775 = .ok (.aload_n 1, 1) := by decide +kernel
theorem d_L_law_776 : decode c_L_law 776 = .ok (.aload_n 3, 1) := by decide +kernel
theorem d_L_law_777 : decode c_L_law 777 = .ok (.invokestatic 111, 3) := by decide +kernel
theorem d_L_law_780 : decode c_L_law 780 = .ok (.istore 5, 2) := by decide +kernel
theorem d_L_law_782 : decode c_L_law 782 = .ok (.aload_n 2, 1) := by decide +kernel
theorem d_L_law_783 : decode c_L_law 783 = .ok (.invokevirtual 114, 3) := by decide +kernel
theorem d_L_law_786 : decode c_L_law 786 = .ok (.istore 6, 2) := by decide +kernel
theorem d_L_law_788 : decode c_L_law 788 = .ok (.aload_n 2, 1) := by decide +kernel
theorem d_L_law_789 : decode c_L_law 789 = .ok (.invokevirtual 74, 3) := by decide +kernel
theorem d_L_law_792 : decode c_L_law 792 = .ok (.iload 5, 2) := by decide +kernel
theorem d_L_law_794 : decode c_L_law 794 = .ok (.if_icmp .eq 5, 3) := by decide +kernel
theorem d_L_law_797 : decode c_L_law 797 = .ok (.iconst 0, 1) := by decide +kernel
theorem d_L_law_798 : decode c_L_law 798 = .ok (.ireturn, 1) := by decide +kernel
theorem d_L_law_799 : decode c_L_law 799 = .ok (.iload 5, 2) := by decide +kernel
theorem d_L_law_801 : decode c_L_law 801 = .ok (.ifCond .ne 15, 3) := by decide +kernel
theorem d_L_law_804 : decode c_L_law 804 = .ok (.aload_n 3, 1) := by decide +kernel
theorem d_L_law_805 : decode c_L_law 805 = .ok (.iconst 0, 1) := by decide +kernel
theorem d_L_law_806 : decode c_L_law 806 = .ok (.laload, 1) := by decide +kernel
theorem d_L_law_807 : decode c_L_law 807 = .ok (.iload 6, 2) := by decide +kernel
theorem d_L_law_809 : decode c_L_law 809 = .ok (.i2l, 1) := by decide +kernel
theorem d_L_law_810 : decode c_L_law 810 = .ok (.lcmp, 1) := by decide +kernel
theorem d_L_law_811 : decode c_L_law 811 = .ok (.ifCond .eq 5, 3) := by decide +kernel
theorem d_L_law_814 : decode c_L_law 814 = .ok (.iconst 0, 1) := by decide +kernel
theorem d_L_law_815 : decode c_L_law 815 = .ok (.ireturn, 1) := by decide +kernel
theorem d_L_law_816 : decode c_L_law 816 = .ok (.goto 58, 3) := by decide +kernel
theorem d_L_law_819 : decode c_L_law 819 = .ok (.aload_n 1, 1) := by decide +kernel
theorem d_L_law_820 : decode c_L_law 820 = .ok (.aload_n 0, 1) := by decide +kernel
theorem d_L_law_821 : decode c_L_law 821 = .ok (.iload 4, 2) := by decide +kernel
theorem d_L_law_823 : decode c_L_law 823 = .ok (.iconst 1, 1) := by decide +kernel
theorem d_L_law_824 : decode c_L_law 824 = .ok (.iadd, 1) := by decide +kernel
theorem d_L_law_825 : decode c_L_law 825 = .ok (.iaload, 1) := by decide +kernel
theorem d_L_law_826 : decode c_L_law 826 = .ok (.aload_n 3, 1) := by decide +kernel
theorem d_L_law_827 : decode c_L_law 827 = .ok (.invokestatic 115, 3) := by decide +kernel
theorem d_L_law_830 : decode c_L_law 830 = .ok (.istore 5, 2) := by decide +kernel
theorem d_L_law_832 : decode c_L_law 832 = .ok (.aload_n 2, 1) := by decide +kernel
theorem d_L_law_833 : decode c_L_law 833 = .ok (.aload_n 0, 1) := by decide +kernel
theorem d_L_law_834 : decode c_L_law 834 = .ok (.iload 4, 2) := by decide +kernel
theorem d_L_law_836 : decode c_L_law 836 = .ok (.iconst 1, 1) := by decide +kernel
theorem d_L_law_837 : decode c_L_law 837 = .ok (.iadd, 1) := by decide +kernel
theorem d_L_law_838 : decode c_L_law 838 = .ok (.iaload, 1) := by decide +kernel
theorem d_L_law_839 : decode c_L_law 839 = .ok (.invokevirtual 117, 3) := by decide +kernel
theorem d_L_law_842 : decode c_L_law 842 = .ok (.lstore 6, 2) := by decide +kernel
theorem d_L_law_844 : decode c_L_law 844 = .ok (.aload_n 2, 1) := by decide +kernel
theorem d_L_law_845 : decode c_L_law 845 = .ok (.invokevirtual 74, 3) := by decide +kernel
theorem d_L_law_848 : decode c_L_law 848 = .ok (.iload 5, 2) := by decide +kernel
theorem d_L_law_850 : decode c_L_law 850 = .ok (.if_icmp .eq 5, 3) := by decide +kernel
theorem d_L_law_853 : decode c_L_law 853 = .ok (.iconst 0, 1) := by decide +kernel
theorem d_L_law_854 : decode c_L_law 854 = .ok (.ireturn, 1) := by decide +kernel
theorem d_L_law_855 : decode c_L_law 855 = .ok (.iload 5, 2) := by decide +kernel
theorem d_L_law_857 : decode c_L_law 857 = .ok (.ifCond .ne 14, 3) := by decide +kernel
theorem d_L_law_860 : decode c_L_law 860 = .ok (.aload_n 3, 1) := by decide +kernel
theorem d_L_law_861 : decode c_L_law 861 = .ok (.iconst 0, 1) := by decide +kernel
theorem d_L_law_862 : decode c_L_law 862 = .ok (.laload, 1) := by decide +kernel
theorem d_L_law_863 : decode c_L_law 863 = .ok (.lload 6, 2) := by decide +kernel
theorem d_L_law_865 : decode c_L_law 865 = .ok (.lcmp, 1) := by decide +kernel
theorem d_L_law_866 : decode c_L_law 866 = .ok (.ifCond .eq 5, 3) := by decide +kernel
theorem d_L_law_869 : decode c_L_law 869 = .ok (.iconst 0, 1) := by decide +kernel
theorem d_L_law_870 : decode c_L_law 870 = .ok (.ireturn, 1) := by decide +kernel
theorem d_L_law_871 : decode c_L_law 871 = .ok (.goto 3, 3) := by decide +kernel
theorem d_L_law_874 : decode c_L_law 874 = .ok (.iinc 4 5, 3) := by decide +kernel
theorem d_L_law_877 : decode c_L_law 877 = .ok (.goto (-854), 3) := by decide +kernel
theorem d_L_law_880 : decode c_L_law 880 = .ok (.iconst 1, 1) := by decide +kernel
theorem d_L_law_881 : decode c_L_law 881 = .ok (.ireturn, 1) := by decide +kernel
