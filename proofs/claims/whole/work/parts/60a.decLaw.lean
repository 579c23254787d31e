abbrev bL_law : ByteArray := code
/-! decode rows: laid by my program out of the listing -/
theorem dL_law_0 : decode bL_law 0 = .ok (.new 8, 3) := by decide +kernel
theorem dL_law_3 : decode bL_law 3 = .ok (.dup, 1) := by decide +kernel
theorem dL_law_4 : decode bL_law 4 = .ok (.invokespecial 40, 3) := by decide +kernel
theorem dL_law_7 : decode bL_law 7 = .ok (.astore_n 1, 1) := by decide +kernel
theorem dL_law_8 : decode bL_law 8 = .ok (.new 41, 3) := by decide +kernel
theorem dL_law_11 : decode bL_law 11 = .ok (.dup, 1) := by decide +kernel
theorem dL_law_12 : decode bL_law 12 = .ok (.invokespecial 43, 3) := by decide +kernel
theorem dL_law_15 : decode bL_law 15 = .ok (.astore_n 2, 1) := by decide +kernel
theorem dL_law_16 : decode bL_law 16 = .ok (.iconst 1, 1) := by decide +kernel
theorem dL_law_17 : decode bL_law 17 = .ok (.newarray .long, 2) := by decide +kernel
theorem dL_law_19 : decode bL_law 19 = .ok (.astore_n 3, 1) := by decide +kernel
theorem dL_law_20 : decode bL_law 20 = .ok (.iconst 0, 1) := by decide +kernel
theorem dL_law_21 : decode bL_law 21 = .ok (.istore 4, 2) := by decide +kernel
theorem dL_law_23 : decode bL_law 23 = .ok (.iload 4, 2) := by decide +kernel
theorem dL_law_25 : decode bL_law 25 = .ok (.aload_n 0, 1) := by decide +kernel
theorem dL_law_26 : decode bL_law 26 = .ok (.arraylength, 1) := by decide +kernel
theorem dL_law_27 : decode bL_law 27 = .ok (.iconst 4, 1) := by decide +kernel
theorem dL_law_28 : decode bL_law 28 = .ok (.isub, 1) := by decide +kernel
theorem dL_law_29 : decode bL_law 29 = .ok (.if_icmp .gt 601, 3) := by decide +kernel
theorem dL_law_32 : decode bL_law 32 = .ok (.aload_n 0, 1) := by decide +kernel
theorem dL_law_33 : decode bL_law 33 = .ok (.iload 4, 2) := by decide +kernel
theorem dL_law_35 : decode bL_law 35 = .ok (.iaload, 1) := by decide +kernel
theorem dL_law_36 : decode bL_law 36 = .ok (.bipush 15, 2) := by decide +kernel
theorem dL_law_38 : decode bL_law 38 = .ok (.iand, 1) := by decide +kernel
theorem dL_law_39 : decode bL_law 39 = .ok (.tableswitch 585 0 9 #[53, 64, 132, 188, 268, 336, 404, 460, 473, 529], 53) := by decide +kernel
theorem dL_law_92 : decode bL_law 92 = .ok (.aload_n 1, 1) := by decide +kernel
theorem dL_law_93 : decode bL_law 93 = .ok (.invokevirtual 44, 3) := by decide +kernel
theorem dL_law_96 : decode bL_law 96 = .ok (.aload_n 2, 1) := by decide +kernel
theorem dL_law_97 : decode bL_law 97 = .ok (.invokevirtual 47, 3) := by decide +kernel
theorem dL_law_100 : decode bL_law 100 = .ok (.goto 524, 3) := by decide +kernel
theorem dL_law_103 : decode bL_law 103 = .ok (.aload_n 1, 1) := by decide +kernel
theorem dL_law_104 : decode bL_law 104 = .ok (.aload_n 0, 1) := by decide +kernel
theorem dL_law_105 : decode bL_law 105 = .ok (.iload 4, 2) := by decide +kernel
theorem dL_law_107 : decode bL_law 107 = .ok (.iconst 1, 1) := by decide +kernel
theorem dL_law_108 : decode bL_law 108 = .ok (.iadd, 1) := by decide +kernel
theorem dL_law_109 : decode bL_law 109 = .ok (.iaload, 1) := by decide +kernel
theorem dL_law_110 : decode bL_law 110 = .ok (.aload_n 0, 1) := by decide +kernel
theorem dL_law_111 : decode bL_law 111 = .ok (.iload 4, 2) := by decide +kernel
theorem dL_law_113 : decode bL_law 113 = .ok (.iconst 2, 1) := by decide +kernel
theorem dL_law_114 : decode bL_law 114 = .ok (.iadd, 1) := by decide +kernel
theorem dL_law_115 : decode bL_law 115 = .ok (.iaload, 1) := by decide +kernel
theorem dL_law_116 : decode bL_law 116 = .ok (.aload_n 3, 1) := by decide +kernel
theorem dL_law_117 : decode bL_law 117 = .ok (.invokestatic 48, 3) := by decide +kernel
theorem dL_law_120 : decode bL_law 120 = .ok (.istore 5, 2) := by decide +kernel
theorem dL_law_122 : decode bL_law 122 = .ok (.aload_n 2, 1) := by decide +kernel
theorem dL_law_123 : decode bL_law 123 = .ok (.aload_n 0, 1) := by decide +kernel
theorem dL_law_124 : decode bL_law 124 = .ok (.iload 4, 2) := by decide +kernel
theorem dL_law_126 : decode bL_law 126 = .ok (.iconst 1, 1) := by decide +kernel
theorem dL_law_127 : decode bL_law 127 = .ok (.iadd, 1) := by decide +kernel
theorem dL_law_128 : decode bL_law 128 = .ok (.iaload, 1) := by decide +kernel
theorem dL_law_129 : decode bL_law 129 = .ok (.aload_n 0, 1) := by decide +kernel
theorem dL_law_130 : decode bL_law 130 = .ok (.iload 4, 2) := by decide +kernel
theorem dL_law_132 : decode bL_law 132 = .ok (.iconst 2, 1) := by decide +kernel
theorem dL_law_133 : decode bL_law 133 = .ok (.iadd, 1) := by decide +kernel
theorem dL_law_134 : decode bL_law 134 = .ok (.iaload, 1) := by decide +kernel
theorem dL_law_135 : decode bL_law 135 = .ok (.invokevirtual 53, 3) := by decide +kernel
theorem dL_law_138 : decode bL_law 138 = .ok (.istore 6, 2) := by decide +kernel
theorem dL_law_140 : decode bL_law 140 = .ok (.aload_n 2, 1) := by decide +kernel
theorem dL_law_141 : decode bL_law 141 = .ok (.invokevirtual 54, 3) := by decide +kernel
theorem dL_law_144 : decode bL_law 144 = .ok (.iload 5, 2) := by decide +kernel
theorem dL_law_146 : decode bL_law 146 = .ok (.if_icmp .eq 5, 3) := by decide +kernel
theorem dL_law_149 : decode bL_law 149 = .ok (.iconst 0, 1) := by decide +kernel
theorem dL_law_150 : decode bL_law 150 = .ok (.ireturn, 1) := by decide +kernel
theorem dL_law_151 : decode bL_law 151 = .ok (.iload 5, 2) := by decide +kernel
theorem dL_law_153 : decode bL_law 153 = .ok (.ifCond .ne 15, 3) := by decide +kernel
theorem dL_law_156 : decode bL_law 156 = .ok (.aload_n 3, 1) := by decide +kernel
theorem dL_law_157 : decode bL_law 157 = .ok (.iconst 0, 1) := by decide +kernel
theorem dL_law_158 : decode bL_law 158 = .ok (.laload, 1) := by decide +kernel
theorem dL_law_159 : decode bL_law 159 = .ok (.iload 6, 2) := by decide +kernel
theorem dL_law_161 : decode bL_law 161 = .ok (.i2l, 1) := by decide +kernel
theorem dL_law_162 : decode bL_law 162 = .ok (.lcmp, 1) := by decide +kernel
theorem dL_law_163 : decode bL_law 163 = .ok (.ifCond .eq 5, 3) := by decide +kernel
theorem dL_law_166 : decode bL_law 166 = .ok (.iconst 0, 1) := by decide +kernel
theorem dL_law_167 : decode bL_law 167 = .ok (.ireturn, 1) := by decide +kernel
theorem dL_law_168 : decode bL_law 168 = .ok (.goto 456, 3) := by decide +kernel
theorem dL_law_171 : decode bL_law 171 = .ok (.aload_n 1, 1) := by decide +kernel
theorem dL_law_172 : decode bL_law 172 = .ok (.aload_n 0, 1) := by decide +kernel
theorem dL_law_173 : decode bL_law 173 = .ok (.iload 4, 2) := by decide +kernel
theorem dL_law_175 : decode bL_law 175 = .ok (.iconst 1, 1) := by decide +kernel
theorem dL_law_176 : decode bL_law 176 = .ok (.iadd, 1) := by decide +kernel
theorem dL_law_177 : decode bL_law 177 = .ok (.iaload, 1) := by decide +kernel
theorem dL_law_178 : decode bL_law 178 = .ok (.aload_n 3, 1) := by decide +kernel
theorem dL_law_179 : decode bL_law 179 = .ok (.invokestatic 58, 3) := by decide +kernel
theorem dL_law_182 : decode bL_law 182 = .ok (.istore 5, 2) := by decide +kernel
theorem dL_law_184 : decode bL_law 184 = .ok (.aload_n 2, 1) := by decide +kernel
theorem dL_law_185 : decode bL_law 185 = .ok (.aload_n 0, 1) := by decide +kernel
theorem dL_law_186 : decode bL_law 186 = .ok (.iload 4, 2) := by decide +kernel
theorem dL_law_188 : decode bL_law 188 = .ok (.iconst 1, 1) := by decide +kernel
theorem dL_law_189 : decode bL_law 189 = .ok (.iadd, 1) := by decide +kernel
theorem dL_law_190 : decode bL_law 190 = .ok (.iaload, 1) := by decide +kernel
theorem dL_law_191 : decode bL_law 191 = .ok (.invokevirtual 61, 3) := by decide +kernel
theorem dL_law_194 : decode bL_law 194 = .ok (.istore 6, 2) := by decide +kernel
theorem dL_law_196 : decode bL_law 196 = .ok (.aload_n 2, 1) := by decide +kernel
theorem dL_law_197 : decode bL_law 197 = .ok (.invokevirtual 54, 3) := by decide +kernel
theorem dL_law_200 : decode bL_law 200 = .ok (.iload 5, 2) := by decide +kernel
theorem dL_law_202 : decode bL_law 202 = .ok (.if_icmp .eq 5, 3) := by decide +kernel
theorem dL_law_205 : decode bL_law 205 = .ok (.iconst 0, 1) := by decide +kernel
theorem dL_law_206 : decode bL_law 206 = .ok (.ireturn, 1) := by decide +kernel
theorem dL_law_207 : decode bL_law 207 = .ok (.iload 5, 2) := by decide +kernel
theorem dL_law_209 : decode bL_law 209 = .ok (.ifCond .ne 15, 3) := by decide +kernel
theorem dL_law_212 : decode bL_law 212 = .ok (.aload_n 3, 1) := by decide +kernel
theorem dL_law_213 : decode bL_law 213 = .ok (.iconst 0, 1) := by decide +kernel
theorem dL_law_214 : decode bL_law 214 = .ok (.laload, 1) := by decide +kernel
theorem dL_law_215 : decode bL_law 215 = .ok (.iload 6, 2) := by decide +kernel
theorem dL_law_217 : decode bL_law 217 = .ok (.i2l, 1) := by decide +kernel
theorem dL_law_218 : decode bL_law 218 = .ok (.lcmp, 1) := by decide +kernel
theorem dL_law_219 : decode bL_law 219 = .ok (.ifCond .eq 5, 3) := by decide +kernel
theorem dL_law_222 : decode bL_law 222 = .ok (.iconst 0, 1) := by decide +kernel
theorem dL_law_223 : decode bL_law 223 = .ok (.ireturn, 1) := by decide +kernel
theorem dL_law_224 : decode bL_law 224 = .ok (.goto 400, 3) := by decide +kernel
theorem dL_law_227 : decode bL_law 227 = .ok (.aload_n 1, 1) := by decide +kernel
theorem dL_law_228 : decode bL_law 228 = .ok (.aload_n 0, 1) := by decide +kernel
theorem dL_law_229 : decode bL_law 229 = .ok (.iload 4, 2) := by decide +kernel
theorem dL_law_231 : decode bL_law 231 = .ok (.iconst 1, 1) := by decide +kernel
theorem dL_law_232 : decode bL_law 232 = .ok (.iadd, 1) := by decide +kernel
theorem dL_law_233 : decode bL_law 233 = .ok (.iaload, 1) := by decide +kernel
theorem dL_law_234 : decode bL_law 234 = .ok (.aload_n 0, 1) := by decide +kernel
theorem dL_law_235 : decode bL_law 235 = .ok (.iload 4, 2) := by decide +kernel
theorem dL_law_237 : decode bL_law 237 = .ok (.iconst 2, 1) := by decide +kernel
theorem dL_law_238 : decode bL_law 238 = .ok (.iadd, 1) := by decide +kernel
theorem dL_law_239 : decode bL_law 239 = .ok (.iaload, 1) := by decide +kernel
theorem dL_law_240 : decode bL_law 240 = .ok (.aload_n 0, 1) := by decide +kernel
theorem dL_law_241 : decode bL_law 241 = .ok (.iload 4, 2) := by decide +kernel
theorem dL_law_243 : decode bL_law 243 = .ok (.iconst 3, 1) := by decide +kernel
theorem dL_law_244 : decode bL_law 244 = .ok (.iadd, 1) := by decide +kernel
theorem dL_law_245 : decode bL_law 245 = .ok (.iaload, 1) := by decide +kernel
theorem dL_law_246 : decode bL_law 246 = .ok (.aload_n 3, 1) := by decide +kernel
theorem dL_law_247 : decode bL_law 247 = .ok (.invokestatic 62, 3) := by decide +kernel
theorem dL_law_250 : decode bL_law 250 = .ok (.istore 5, 2) := by decide +kernel
theorem dL_law_252 : decode bL_law 252 = .ok (.aload_n 2, 1) := by decide +kernel
theorem dL_law_253 : decode bL_law 253 = .ok (.aload_n 0, 1) := by decide +kernel
theorem dL_law_254 : decode bL_law 254 = .ok (.iload 4, 2) := by decide +kernel
theorem dL_law_256 : decode bL_law 256 = .ok (.iconst 1, 1) := by decide +kernel
theorem dL_law_257 : decode bL_law 257 = .ok (.iadd, 1) := by decide +kernel
theorem dL_law_258 : decode bL_law 258 = .ok (.iaload, 1) := by decide +kernel
theorem dL_law_259 : decode bL_law 259 = .ok (.aload_n 0, 1) := by decide +kernel
theorem dL_law_260 : decode bL_law 260 = .ok (.iload 4, 2) := by decide +kernel
theorem dL_law_262 : decode bL_law 262 = .ok (.iconst 2, 1) := by decide +kernel
theorem dL_law_263 : decode bL_law 263 = .ok (.iadd, 1) := by decide +kernel
theorem dL_law_264 : decode bL_law 264 = .ok (.iaload, 1) := by decide +kernel
theorem dL_law_265 : decode bL_law 265 = .ok (.aload_n 0, 1) := by decide +kernel
theorem dL_law_266 : decode bL_law 266 = .ok (.iload 4, 2) := by decide +kernel
theorem dL_law_268 : decode bL_law 268 = .ok (.iconst 3, 1) := by decide +kernel
theorem dL_law_269 : decode bL_law 269 = .ok (.iadd, 1) := by decide +kernel
theorem dL_law_270 : decode bL_law 270 = .ok (.iaload, 1) := by decide +kernel
theorem dL_law_271 : decode bL_law 271 = .ok (.invokevirtual 65, 3) := by decide +kernel
theorem dL_law_274 : decode bL_law 274 = .ok (.istore 6, 2) := by decide +kernel
theorem dL_law_276 : decode bL_law 276 = .ok (.aload_n 2, 1) := by decide +kernel
theorem dL_law_277 : decode bL_law 277 = .ok (.invokevirtual 54, 3) := by decide +kernel
theorem dL_law_280 : decode bL_law 280 = .ok (.iload 5, 2) := by decide +kernel
theorem dL_law_282 : decode bL_law 282 = .ok (.if_icmp .eq 5, 3) := by decide +kernel
theorem dL_law_285 : decode bL_law 285 = .ok (.iconst 0, 1) := by decide +kernel
theorem dL_law_286 : decode bL_law 286 = .ok (.ireturn, 1) := by decide +kernel
theorem dL_law_287 : decode bL_law 287 = .ok (.iload 5, 2) := by decide +kernel
theorem dL_law_289 : decode bL_law 289 = .ok (.ifCond .ne 15, 3) := by decide +kernel
theorem dL_law_292 : decode bL_law 292 = .ok (.aload_n 3, 1) := by decide +kernel
theorem dL_law_293 : decode bL_law 293 = .ok (.iconst 0, 1) := by decide +kernel
theorem dL_law_294 : decode bL_law 294 = .ok (.laload, 1) := by decide +kernel
theorem dL_law_295 : decode bL_law 295 = .ok (.iload 6, 2) := by decide +kernel
theorem dL_law_297 : decode bL_law 297 = .ok (.i2l, 1) := by decide +kernel
theorem dL_law_298 : decode bL_law 298 = .ok (.lcmp, 1) := by decide +kernel
theorem dL_law_299 : decode bL_law 299 = .ok (.ifCond .eq 5, 3) := by decide +kernel
theorem dL_law_302 : decode bL_law 302 = .ok (.iconst 0, 1) := by decide +kernel
theorem dL_law_303 : decode bL_law 303 = .ok (.ireturn, 1) := by decide +kernel
theorem dL_law_304 : decode bL_law 304 = .ok (.goto 320, 3) := by decide +kernel
theorem dL_law_307 : decode bL_law 307 = .ok (.aload_n 1, 1) := by decide +kernel
theorem dL_law_308 : decode bL_law 308 = .ok (.aload_n 0, 1) := by decide +kernel
theorem dL_law_309 : decode bL_law 309 = .ok (.iload 4, 2) := by decide +kernel
theorem dL_law_311 : decode bL_law 311 = .ok (.iconst 1, 1) := by decide +kernel
theorem dL_law_312 : decode bL_law 312 = .ok (.iadd, 1) := by decide +kernel
theorem dL_law_313 : decode bL_law 313 = .ok (.iaload, 1) := by decide +kernel
theorem dL_law_314 : decode bL_law 314 = .ok (.aload_n 0, 1) := by decide +kernel
theorem dL_law_315 : decode bL_law 315 = .ok (.iload 4, 2) := by decide +kernel
theorem dL_law_317 : decode bL_law 317 = .ok (.iconst 2, 1) := by decide +kernel
theorem dL_law_318 : decode bL_law 318 = .ok (.iadd, 1) := by decide +kernel
theorem dL_law_319 : decode bL_law 319 = .ok (.iaload, 1) := by decide +kernel
theorem dL_law_320 : decode bL_law 320 = .ok (.aload_n 3, 1) := by decide +kernel
theorem dL_law_321 : decode bL_law 321 = .ok (.invokestatic 66, 3) := by decide +kernel
theorem dL_law_324 : decode bL_law 324 = .ok (.istore 5, 2) := by decide +kernel
theorem dL_law_326 : decode bL_law 326 = .ok (.aload_n 2, 1) := by decide +kernel
theorem dL_law_327 : decode bL_law 327 = .ok (.aload_n 0, 1) := by decide +kernel
theorem dL_law_328 : decode bL_law 328 = .ok (.iload 4, 2) := by decide +kernel
theorem dL_law_330 : decode bL_law 330 = .ok (.iconst 1, 1) := by decide +kernel
theorem dL_law_331 : decode bL_law 331 = .ok (.iadd, 1) := by decide +kernel
theorem dL_law_332 : decode bL_law 332 = .ok (.iaload, 1) := by decide +kernel
theorem dL_law_333 : decode bL_law 333 = .ok (.aload_n 0, 1) := by decide +kernel
theorem dL_law_334 : decode bL_law 334 = .ok (.iload 4, 2) := by decide +kernel
theorem dL_law_336 : decode bL_law 336 = .ok (.iconst 2, 1) := by decide +kernel
theorem dL_law_337 : decode bL_law 337 = .ok (.iadd, 1) := by decide +kernel
theorem dL_law_338 : decode bL_law 338 = .ok (.iaload, 1) := by decide +kernel
theorem dL_law_339 : decode bL_law 339 = .ok (.invokevirtual 68, 3) := by decide +kernel
theorem dL_law_342 : decode bL_law 342 = .ok (.istore 6, 2) := by decide +kernel
theorem dL_law_344 : decode bL_law 344 = .ok (.aload_n 2, 1) := by decide +kernel
theorem dL_law_345 : decode bL_law 345 = .ok (.invokevirtual 54, 3) := by decide +kernel
theorem dL_law_348 : decode bL_law 348 = .ok (.iload 5, 2) := by decide +kernel
theorem dL_law_350 : decode bL_law 350 = .ok (.if_icmp .eq 5, 3) := by decide +kernel
theorem dL_law_353 : decode bL_law 353 = .ok (.iconst 0, 1) := by decide +kernel
theorem dL_law_354 : decode bL_law 354 = .ok (.ireturn, 1) := by decide +kernel
theorem dL_law_355 : decode bL_law 355 = .ok (.iload 5, 2) := by decide +kernel
theorem dL_law_357 : decode bL_law 357 = .ok (.ifCond .ne 15, 3) := by decide +kernel
theorem dL_law_360 : decode bL_law 360 = .ok (.aload_n 3, 1) := by decide +kernel
theorem dL_law_361 : decode bL_law 361 = .ok (.iconst 0, 1) := by decide +kernel
theorem dL_law_362 : decode bL_law 362 = .ok (.laload, 1) := by decide +kernel
theorem dL_law_363 : decode bL_law 363 = .ok (.iload 6, 2) := by decide +kernel
theorem dL_law_365 : decode bL_law 365 = .ok (.i2l, 1) := by decide +kernel
theorem dL_law_366 : decode bL_law 366 = .ok (.lcmp, 1) := by decide +kernel
theorem dL_law_367 : decode bL_law 367 = .ok (.ifCond .eq 5, 3) := by decide +kernel
theorem dL_law_370 : decode bL_law 370 = .ok (.iconst 0, 1) := by decide +kernel
theorem dL_law_371 : decode bL_law 371 = .ok (.ireturn, 1) := by decide +kernel
theorem dL_law_372 : decode bL_law 372 = .ok (.goto 252, 3) := by decide +kernel
theorem dL_law_375 : decode bL_law 375 = .ok (.aload_n 1, 1) := by decide +kernel
theorem dL_law_376 : decode bL_law 376 = .ok (.aload_n 0, 1) := by decide +kernel
theorem dL_law_377 : decode bL_law 377 = .ok (.iload 4, 2) := by decide +kernel
theorem dL_law_379 : decode bL_law 379 = .ok (.iconst 1, 1) := by decide +kernel
theorem dL_law_380 : decode bL_law 380 = .ok (.iadd, 1) := by decide +kernel
theorem dL_law_381 : decode bL_law 381 = .ok (.iaload, 1) := by decide +kernel
theorem dL_law_382 : decode bL_law 382 = .ok (.aload_n 0, 1) := by decide +kernel
theorem dL_law_383 : decode bL_law 383 = .ok (.iload 4, 2) := by decide +kernel
theorem dL_law_385 : decode bL_law 385 = .ok (.iconst 2, 1) := by decide +kernel
theorem dL_law_386 : decode bL_law 386 = .ok (.iadd, 1) := by decide +kernel
theorem dL_law_387 : decode bL_law 387 = .ok (.iaload, 1) := by decide +kernel
theorem dL_law_388 : decode bL_law 388 = .ok (.aload_n 3, 1) := by decide +kernel
theorem dL_law_389 : decode bL_law 389 = .ok (.invokestatic 69, 3) := by decide +kernel
theorem dL_law_392 : decode bL_law 392 = .ok (.istore 5, 2) := by decide +kernel
theorem dL_law_394 : decode bL_law 394 = .ok (.aload_n 2, 1) := by decide +kernel
theorem dL_law_395 : decode bL_law 395 = .ok (.aload_n 0, 1) := by decide +kernel
theorem dL_law_396 : decode bL_law 396 = .ok (.iload 4, 2) := by decide +kernel
theorem dL_law_398 : decode bL_law 398 = .ok (.iconst 1, 1) := by decide +kernel
theorem dL_law_399 : decode bL_law 399 = .ok (.iadd, 1) := by decide +kernel
theorem dL_law_400 : decode bL_law 400 = .ok (.iaload, 1) := by decide +kernel
theorem dL_law_401 : decode bL_law 401 = .ok (.aload_n 0, 1) := by decide +kernel
theorem dL_law_402 : decode bL_law 402 = .ok (.iload 4, 2) := by decide +kernel
theorem dL_law_404 : decode bL_law 404 = .ok (.iconst 2, 1) := by decide +kernel
theorem dL_law_405 : decode bL_law 405 = .ok (.iadd, 1) := by decide +kernel
theorem dL_law_406 : decode bL_law 406 = .ok (.iaload, 1) := by decide +kernel
theorem dL_law_407 : decode bL_law 407 = .ok (.invokevirtual 71, 3) := by decide +kernel
theorem dL_law_410 : decode bL_law 410 = .ok (.istore 6, 2) := by decide +kernel
theorem dL_law_412 : decode bL_law 412 = .ok (.aload_n 2, 1) := by decide +kernel
theorem dL_law_413 : decode bL_law 413 = .ok (.invokevirtual 54, 3) := by decide +kernel
theorem dL_law_416 : decode bL_law 416 = .ok (.iload 5, 2) := by decide +kernel
theorem dL_law_418 : decode bL_law 418 = .ok (.if_icmp .eq 5, 3) := by decide +kernel
theorem dL_law_421 : decode bL_law 421 = .ok (.iconst 0, 1) := by decide +kernel
theorem dL_law_422 : decode bL_law 422 = .ok (.ireturn, 1) := by decide +kernel
theorem dL_law_423 : decode bL_law 423 = .ok (.iload 5, 2) := by decide +kernel
theorem dL_law_425 : decode bL_law 425 = .ok (.ifCond .ne 15, 3) := by decide +kernel
theorem dL_law_428 : decode bL_law 428 = .ok (.aload_n 3, 1) := by decide +kernel
theorem dL_law_429 : decode bL_law 429 = .ok (.iconst 0, 1) := by decide +kernel
theorem dL_law_430 : decode bL_law 430 = .ok (.laload, 1) := by decide +kernel
theorem dL_law_431 : decode bL_law 431 = .ok (.iload 6, 2) := by decide +kernel
theorem dL_law_433 : decode bL_law 433 = .ok (.i2l, 1) := by decide +kernel
theorem dL_law_434 : decode bL_law 434 = .ok (.lcmp, 1) := by decide +kernel
theorem dL_law_435 : decode bL_law 435 = .ok (.ifCond .eq 5, 3) := by decide +kernel
theorem dL_law_438 : decode bL_law 438 = .ok (.iconst 0, 1) := by decide +kernel
theorem dL_law_439 : decode bL_law 439 = .ok (.ireturn, 1) := by decide +kernel
theorem dL_law_440 : decode bL_law 440 = .ok (.goto 184, 3) := by decide +kernel
theorem dL_law_443 : decode bL_law 443 = .ok (.aload_n 1, 1) := by decide +kernel
theorem dL_law_444 : decode bL_law 444 = .ok (.aload_n 0, 1) := by decide +kernel
theorem dL_law_445 : decode bL_law 445 = .ok (.iload 4, 2) := by decide +kernel
theorem dL_law_447 : decode bL_law 447 = .ok (.iconst 1, 1) := by decide +kernel
theorem dL_law_448 : decode bL_law 448 = .ok (.iadd, 1) := by decide +kernel
theorem dL_law_449 : decode bL_law 449 = .ok (.iaload, 1) := by decide +kernel
theorem dL_law_450 : decode bL_law 450 = .ok (.aload_n 3, 1) := by decide +kernel
theorem dL_law_451 : decode bL_law 451 = .ok (.invokestatic 72, 3) := by decide +kernel
theorem dL_law_454 : decode bL_law 454 = .ok (.istore 5, 2) := by decide +kernel
theorem dL_law_456 : decode bL_law 456 = .ok (.aload_n 2, 1) := by decide +kernel
theorem dL_law_457 : decode bL_law 457 = .ok (.aload_n 0, 1) := by decide +kernel
theorem dL_law_458 : decode bL_law 458 = .ok (.iload 4, 2) := by decide +kernel
theorem dL_law_460 : decode bL_law 460 = .ok (.iconst 1, 1) := by decide +kernel
theorem dL_law_461 : decode bL_law 461 = .ok (.iadd, 1) := by decide +kernel
theorem dL_law_462 : decode bL_law 462 = .ok (.iaload, 1) := by decide +kernel
theorem dL_law_463 : decode bL_law 463 = .ok (.invokevirtual 74, 3) := by decide +kernel
theorem dL_law_466 : decode bL_law 466 = .ok (.istore 6, 2) := by decide +kernel
theorem dL_law_468 : decode bL_law 468 = .ok (.aload_n 2, 1) := by decide +kernel
theorem dL_law_469 : decode bL_law 469 = .ok (.invokevirtual 54, 3) := by decide +kernel
theorem dL_law_472 : decode bL_law 472 = .ok (.iload 5, 2) := by decide +kernel
theorem dL_law_474 : decode bL_law 474 = .ok (.if_icmp .eq 5, 3) := by decide +kernel
theorem dL_law_477 : decode bL_law 477 = .ok (.iconst 0, 1) := by decide +kernel
theorem dL_law_478 : decode bL_law 478 = .ok (.ireturn, 1) := by decide +kernel
theorem dL_law_479 : decode bL_law 479 = .ok (.iload 5, 2) := by decide +kernel
theorem dL_law_481 : decode bL_law 481 = .ok (.ifCond .ne 15, 3) := by decide +kernel
theorem dL_law_484 : decode bL_law 484 = .ok (.aload_n 3, 1) := by decide +kernel
theorem dL_law_485 : decode bL_law 485 = .ok (.iconst 0, 1) := by decide +kernel
theorem dL_law_486 : decode bL_law 486 = .ok (.laload, 1) := by decide +kernel
theorem dL_law_487 : decode bL_law 487 = .ok (.iload 6, 2) := by decide +kernel
theorem dL_law_489 : decode bL_law 489 = .ok (.i2l, 1) := by decide +kernel
theorem dL_law_490 : decode bL_law 490 = .ok (.lcmp, 1) := by decide +kernel
theorem dL_law_491 : decode bL_law 491 = .ok (.ifCond .eq 5, 3) := by decide +kernel
theorem dL_law_494 : decode bL_law 494 = .ok (.iconst 0, 1) := by decide +kernel
theorem dL_law_495 : decode bL_law 495 = .ok (.ireturn, 1) := by decide +kernel
theorem dL_law_496 : decode bL_law 496 = .ok (.goto 128, 3) := by decide +kernel
theorem dL_law_499 : decode bL_law 499 = .ok (.aload_n 1, 1) := by decide +kernel
theorem dL_law_500 : decode bL_law 500 = .ok (.invokevirtual 75, 3) := by decide +kernel
theorem dL_law_503 : decode bL_law 503 = .ok (.aload_n 2, 1) := by decide +kernel
theorem dL_law_504 : decode bL_law 504 = .ok (.invokevirtual 78, 3) := by decide +kernel
theorem dL_law_507 : decode bL_law 507 = .ok (.if_icmp .eq 117, 3) := by decide +kernel
theorem dL_law_510 : decode bL_law 510 = .ok (.iconst 0, 1) := by decide +kernel
theorem dL_law_511 : decode bL_law 511 = .ok (.ireturn, 1) := by decide +kernel
theorem dL_law_512 : decode bL_law 512 = .ok (.aload_n 1, 1) := by decide +kernel
theorem dL_law_513 : decode bL_law 513 = .ok (.aload_n 0, 1) := by decide +kernel
theorem dL_law_514 : decode bL_law 514 = .ok (.iload 4, 2) := by decide +kernel
theorem dL_law_516 : decode bL_law 516 = .ok (.iconst 1, 1) := by decide +kernel
theorem dL_law_517 : decode bL_law 517 = .ok (.iadd, 1) := by decide +kernel
theorem dL_law_518 : decode bL_law 518 = .ok (.iaload, 1) := by decide +kernel
theorem dL_law_519 : decode bL_law 519 = .ok (.aload_n 3, 1) := by decide +kernel
theorem dL_law_520 : decode bL_law 520 = .ok (.invokestatic 79, 3) := by decide +kernel
theorem dL_law_523 : decode bL_law 523 = .ok (.istore 5, 2) := by decide +kernel
theorem dL_law_525 : decode bL_law 525 = .ok (.aload_n 2, 1) := by decide +kernel
theorem dL_law_526 : decode bL_law 526 = .ok (.aload_n 0, 1) := by decide +kernel
theorem dL_law_527 : decode bL_law 527 = .ok (.iload 4, 2) := by decide +kernel
theorem dL_law_529 : decode bL_law 529 = .ok (.iconst 1, 1) := by decide +kernel
theorem dL_law_530 : decode bL_law 530 = .ok (.iadd, 1) := by decide +kernel
theorem dL_law_531 : decode bL_law 531 = .ok (.iaload, 1) := by decide +kernel
theorem dL_law_532 : decode bL_law 532 = .ok (.invokevirtual 81, 3) := by decide +kernel
theorem dL_law_535 : decode bL_law 535 = .ok (.istore 6, 2) := by decide +kernel
theorem dL_law_537 : decode bL_law 537 = .ok (.aload_n 2, 1) := by decide +kernel
theorem dL_law_538 : decode bL_law 538 = .ok (.invokevirtual 54, 3) := by decide +kernel
theorem dL_law_541 : decode bL_law 541 = .ok (.iload 5, 2) := by decide +kernel
theorem dL_law_543 : decode bL_law 543 = .ok (.if_icmp .eq 5, 3) := by decide +kernel
theorem dL_law_546 : decode bL_law 546 = .ok (.iconst 0, 1) := by decide +kernel
theorem dL_law_547 : decode bL_law 547 = .ok (.ireturn, 1) := by decide +kernel
theorem dL_law_548 : decode bL_law 548 = .ok (.iload 5, 2) := by decide +kernel
theorem dL_law_550 : decode bL_law 550 = .ok (.ifCond .ne 15, 3) := by decide +kernel
theorem dL_law_553 : decode bL_law 553 = .ok (.aload_n 3, 1) := by decide +kernel
theorem dL_law_554 : decode bL_law 554 = .ok (.iconst 0, 1) := by decide +kernel
theorem dL_law_555 : decode bL_law 555 = .ok (.laload, 1) := by decide +kernel
theorem dL_law_556 : decode bL_law 556 = .ok (.iload 6, 2) := by decide +kernel
theorem dL_law_558 : decode bL_law 558 = .ok (.i2l, 1) := by decide +kernel
theorem dL_law_559 : decode bL_law 559 = .ok (.lcmp, 1) := by decide +kernel
theorem dL_law_560 : decode bL_law 560 = .ok (.ifCond .eq 5, 3) := by decide +kernel
theorem dL_law_563 : decode bL_law 563 = .ok (.iconst 0, 1) := by decide +kernel
theorem dL_law_564 : decode bL_law 564 = .ok (.ireturn, 1) := by decide +kernel
theorem dL_law_565 : decode bL_law 565 = .ok (.goto 59, 3) := by decide +kernel
theorem dL_law_568 : decode bL_law 568 = .ok (.aload_n 1, 1) := by decide +kernel
theorem dL_law_569 : decode bL_law 569 = .ok (.aload_n 0, 1) := by decide +kernel
theorem dL_law_570 : decode bL_law 570 = .ok (.iload 4, 2) := by decide +kernel
theorem dL_law_572 : decode bL_law 572 = .ok (.iconst 1, 1) := by decide +kernel
theorem dL_law_573 : decode bL_law 573 = .ok (.iadd, 1) := by decide +kernel
theorem dL_law_574 : decode bL_law 574 = .ok (.iaload, 1) := by decide +kernel
theorem dL_law_575 : decode bL_law 575 = .ok (.aload_n 3, 1) := by decide +kernel
theorem dL_law_576 : decode bL_law 576 = .ok (.invokestatic 82, 3) := by decide +kernel
theorem dL_law_579 : decode bL_law 579 = .ok (.istore 5, 2) := by decide +kernel
theorem dL_law_581 : decode bL_law 581 = .ok (.aload_n 2, 1) := by decide +kernel
theorem dL_law_582 : decode bL_law 582 = .ok (.aload_n 0, 1) := by decide +kernel
theorem dL_law_583 : decode bL_law 583 = .ok (.iload 4, 2) := by decide +kernel
theorem dL_law_585 : decode bL_law 585 = .ok (.iconst 1, 1) := by decide +kernel
theorem dL_law_586 : decode bL_law 586 = .ok (.iadd, 1) := by decide +kernel
theorem dL_law_587 : decode bL_law 587 = .ok (.iaload, 1) := by decide +kernel
theorem dL_law_588 : decode bL_law 588 = .ok (.invokevirtual 84, 3) := by decide +kernel
theorem dL_law_591 : decode bL_law 591 = .ok (.istore 6, 2) := by decide +kernel
theorem dL_law_593 : decode bL_law 593 = .ok (.aload_n 2, 1) := by decide +kernel
theorem dL_law_594 : decode bL_law 594 = .ok (.invokevirtual 54, 3) := by decide +kernel
theorem dL_law_597 : decode bL_law 597 = .ok (.iload 5, 2) := by decide +kernel
theorem dL_law_599 : decode bL_law 599 = .ok (.if_icmp .eq 5, 3) := by decide +kernel
theorem dL_law_602 : decode bL_law 602 = .ok (.iconst 0, 1) := by decide +kernel
theorem dL_law_603 : decode bL_law 603 = .ok (.ireturn, 1) := by decide +kernel
theorem dL_law_604 : decode bL_law 604 = .ok (.iload 5, 2) := by decide +kernel
theorem dL_law_606 : decode bL_law 606 = .ok (.ifCond .ne 15, 3) := by decide +kernel
theorem dL_law_609 : decode bL_law 609 = .ok (.aload_n 3, 1) := by decide +kernel
theorem dL_law_610 : decode bL_law 610 = .ok (.iconst 0, 1) := by decide +kernel
theorem dL_law_611 : decode bL_law 611 = .ok (.laload, 1) := by decide +kernel
theorem dL_law_612 : decode bL_law 612 = .ok (.iload 6, 2) := by decide +kernel
theorem dL_law_614 : decode bL_law 614 = .ok (.i2l, 1) := by decide +kernel
theorem dL_law_615 : decode bL_law 615 = .ok (.lcmp, 1) := by decide +kernel
theorem dL_law_616 : decode bL_law 616 = .ok (.ifCond .eq 5, 3) := by decide +kernel
theorem dL_law_619 : decode bL_law 619 = .ok (.iconst 0, 1) := by decide +kernel
theorem dL_law_620 : decode bL_law 620 = .ok (.ireturn, 1) := by decide +kernel
theorem dL_law_621 : decode bL_law 621 = .ok (.goto 3, 3) := by decide +kernel
theorem dL_law_624 : decode bL_law 624 = .ok (.iinc 4 4, 3) := by decide +kernel
theorem dL_law_627 : decode bL_law 627 = .ok (.goto (-604), 3) := by decide +kernel
theorem dL_law_630 : decode bL_law 630 = .ok (.iconst 1, 1) := by decide +kernel
theorem dL_law_631 : decode bL_law 631 = .ok (.ireturn, 1) := by decide +kernel
