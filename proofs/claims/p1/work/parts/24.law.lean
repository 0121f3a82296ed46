/-! The law: one call on a fresh object -/
abbrev cL_law : ByteArray := code
def yL_law : MethodName := ⟨RL, "law", "([I)Z"⟩
theorem dL_law_0 : decode cL_law 0 = .ok (.new 8, 3) := by decide +kernel
theorem dL_law_3 : decode cL_law 3 = .ok (.dup, 1) := by decide +kernel
theorem dL_law_4 : decode cL_law 4 = .ok (.invokespecial 21, 3) := by decide +kernel
theorem dL_law_7 : decode cL_law 7 = .ok (.astore_n 1, 1) := by decide +kernel
theorem dL_law_8 : decode cL_law 8 = .ok (.new 22, 3) := by decide +kernel
theorem dL_law_11 : decode cL_law 11 = .ok (.dup, 1) := by decide +kernel
theorem dL_law_12 : decode cL_law 12 = .ok (.invokespecial 24, 3) := by decide +kernel
theorem dL_law_15 : decode cL_law 15 = .ok (.astore_n 2, 1) := by decide +kernel
theorem dL_law_16 : decode cL_law 16 = .ok (.iconst 1, 1) := by decide +kernel
theorem dL_law_17 : decode cL_law 17 = .ok (.newarray .long, 2) := by decide +kernel
theorem dL_law_19 : decode cL_law 19 = .ok (.astore_n 3, 1) := by decide +kernel
theorem dL_law_20 : decode cL_law 20 = .ok (.iconst 0, 1) := by decide +kernel
theorem dL_law_21 : decode cL_law 21 = .ok (.istore 4, 2) := by decide +kernel
theorem dL_law_23 : decode cL_law 23 = .ok (.iload 4, 2) := by decide +kernel
theorem dL_law_25 : decode cL_law 25 = .ok (.aload_n 0, 1) := by decide +kernel
theorem dL_law_26 : decode cL_law 26 = .ok (.arraylength, 1) := by decide +kernel
theorem dL_law_27 : decode cL_law 27 = .ok (.bipush 6, 2) := by decide +kernel
theorem dL_law_29 : decode cL_law 29 = .ok (.isub, 1) := by decide +kernel
theorem dL_law_30 : decode cL_law 30 = .ok (.if_icmp .gt 470, 3) := by decide +kernel
theorem dL_law_33 : decode cL_law 33 = .ok (.aload_n 0, 1) := by decide +kernel
theorem dL_law_34 : decode cL_law 34 = .ok (.iload 4, 2) := by decide +kernel
theorem dL_law_36 : decode cL_law 36 = .ok (.iaload, 1) := by decide +kernel
theorem dL_law_37 : decode cL_law 37 = .ok (.bipush 15, 2) := by decide +kernel
theorem dL_law_39 : decode cL_law 39 = .ok (.iand, 1) := by decide +kernel
theorem dL_law_40 : decode cL_law 40 = .ok (.tableswitch 454 0 11 #[64, 137, 162, 175, 200, 236, 292, 317, 342, 379, 404, 441], 64) := by decide +kernel
theorem dL_law_104 : decode cL_law 104 = .ok (.aload_n 1, 1) := by decide +kernel
theorem dL_law_105 : decode cL_law 105 = .ok (.aload_n 0, 1) := by decide +kernel
theorem dL_law_106 : decode cL_law 106 = .ok (.iload 4, 2) := by decide +kernel
theorem dL_law_108 : decode cL_law 108 = .ok (.iconst 1, 1) := by decide +kernel
theorem dL_law_109 : decode cL_law 109 = .ok (.iadd, 1) := by decide +kernel
theorem dL_law_110 : decode cL_law 110 = .ok (.iaload, 1) := by decide +kernel
theorem dL_law_111 : decode cL_law 111 = .ok (.aload_n 0, 1) := by decide +kernel
theorem dL_law_112 : decode cL_law 112 = .ok (.iload 4, 2) := by decide +kernel
theorem dL_law_114 : decode cL_law 114 = .ok (.iconst 2, 1) := by decide +kernel
theorem dL_law_115 : decode cL_law 115 = .ok (.iadd, 1) := by decide +kernel
theorem dL_law_116 : decode cL_law 116 = .ok (.iaload, 1) := by decide +kernel
theorem dL_law_117 : decode cL_law 117 = .ok (.aload_n 0, 1) := by decide +kernel
theorem dL_law_118 : decode cL_law 118 = .ok (.iload 4, 2) := by decide +kernel
theorem dL_law_120 : decode cL_law 120 = .ok (.iconst 3, 1) := by decide +kernel
theorem dL_law_121 : decode cL_law 121 = .ok (.iadd, 1) := by decide +kernel
theorem dL_law_122 : decode cL_law 122 = .ok (.iaload, 1) := by decide +kernel
theorem dL_law_123 : decode cL_law 123 = .ok (.aload_n 0, 1) := by decide +kernel
theorem dL_law_124 : decode cL_law 124 = .ok (.iload 4, 2) := by decide +kernel
theorem dL_law_126 : decode cL_law 126 = .ok (.iconst 4, 1) := by decide +kernel
theorem dL_law_127 : decode cL_law 127 = .ok (.iadd, 1) := by decide +kernel
theorem dL_law_128 : decode cL_law 128 = .ok (.iaload, 1) := by decide +kernel
theorem dL_law_129 : decode cL_law 129 = .ok (.aload_n 0, 1) := by decide +kernel
theorem dL_law_130 : decode cL_law 130 = .ok (.iload 4, 2) := by decide +kernel
theorem dL_law_132 : decode cL_law 132 = .ok (.iconst 5, 1) := by decide +kernel
theorem dL_law_133 : decode cL_law 133 = .ok (.iadd, 1) := by decide +kernel
theorem dL_law_134 : decode cL_law 134 = .ok (.iaload, 1) := by decide +kernel
theorem dL_law_135 : decode cL_law 135 = .ok (.invokevirtual 25, 3) := by decide +kernel
theorem dL_law_138 : decode cL_law 138 = .ok (.aload_n 2, 1) := by decide +kernel
theorem dL_law_139 : decode cL_law 139 = .ok (.aload_n 0, 1) := by decide +kernel
theorem dL_law_140 : decode cL_law 140 = .ok (.iload 4, 2) := by decide +kernel
theorem dL_law_142 : decode cL_law 142 = .ok (.iconst 1, 1) := by decide +kernel
theorem dL_law_143 : decode cL_law 143 = .ok (.iadd, 1) := by decide +kernel
theorem dL_law_144 : decode cL_law 144 = .ok (.iaload, 1) := by decide +kernel
theorem dL_law_145 : decode cL_law 145 = .ok (.aload_n 0, 1) := by decide +kernel
theorem dL_law_146 : decode cL_law 146 = .ok (.iload 4, 2) := by decide +kernel
theorem dL_law_148 : decode cL_law 148 = .ok (.iconst 2, 1) := by decide +kernel
theorem dL_law_149 : decode cL_law 149 = .ok (.iadd, 1) := by decide +kernel
theorem dL_law_150 : decode cL_law 150 = .ok (.iaload, 1) := by decide +kernel
theorem dL_law_151 : decode cL_law 151 = .ok (.aload_n 0, 1) := by decide +kernel
theorem dL_law_152 : decode cL_law 152 = .ok (.iload 4, 2) := by decide +kernel
theorem dL_law_154 : decode cL_law 154 = .ok (.iconst 3, 1) := by decide +kernel
theorem dL_law_155 : decode cL_law 155 = .ok (.iadd, 1) := by decide +kernel
theorem dL_law_156 : decode cL_law 156 = .ok (.iaload, 1) := by decide +kernel
theorem dL_law_157 : decode cL_law 157 = .ok (.aload_n 0, 1) := by decide +kernel
theorem dL_law_158 : decode cL_law 158 = .ok (.iload 4, 2) := by decide +kernel
theorem dL_law_160 : decode cL_law 160 = .ok (.iconst 4, 1) := by decide +kernel
theorem dL_law_161 : decode cL_law 161 = .ok (.iadd, 1) := by decide +kernel
theorem dL_law_162 : decode cL_law 162 = .ok (.iaload, 1) := by decide +kernel
theorem dL_law_163 : decode cL_law 163 = .ok (.aload_n 0, 1) := by decide +kernel
theorem dL_law_164 : decode cL_law 164 = .ok (.iload 4, 2) := by decide +kernel
theorem dL_law_166 : decode cL_law 166 = .ok (.iconst 5, 1) := by decide +kernel
theorem dL_law_167 : decode cL_law 167 = .ok (.iadd, 1) := by decide +kernel
theorem dL_law_168 : decode cL_law 168 = .ok (.iaload, 1) := by decide +kernel
theorem dL_law_169 : decode cL_law 169 = .ok (.invokevirtual 29, 3) := by decide +kernel
theorem dL_law_172 : decode cL_law 172 = .ok (.if_icmp .eq 322, 3) := by decide +kernel
theorem dL_law_177 : decode cL_law 177 = .ok (.aload_n 1, 1) := by decide +kernel
theorem dL_law_178 : decode cL_law 178 = .ok (.aload_n 0, 1) := by decide +kernel
theorem dL_law_179 : decode cL_law 179 = .ok (.iload 4, 2) := by decide +kernel
theorem dL_law_181 : decode cL_law 181 = .ok (.iconst 1, 1) := by decide +kernel
theorem dL_law_182 : decode cL_law 182 = .ok (.iadd, 1) := by decide +kernel
theorem dL_law_183 : decode cL_law 183 = .ok (.iaload, 1) := by decide +kernel
theorem dL_law_184 : decode cL_law 184 = .ok (.invokevirtual 30, 3) := by decide +kernel
theorem dL_law_187 : decode cL_law 187 = .ok (.aload_n 2, 1) := by decide +kernel
theorem dL_law_188 : decode cL_law 188 = .ok (.aload_n 0, 1) := by decide +kernel
theorem dL_law_189 : decode cL_law 189 = .ok (.iload 4, 2) := by decide +kernel
theorem dL_law_191 : decode cL_law 191 = .ok (.iconst 1, 1) := by decide +kernel
theorem dL_law_192 : decode cL_law 192 = .ok (.iadd, 1) := by decide +kernel
theorem dL_law_193 : decode cL_law 193 = .ok (.iaload, 1) := by decide +kernel
theorem dL_law_194 : decode cL_law 194 = .ok (.invokevirtual 33, 3) := by decide +kernel
theorem dL_law_197 : decode cL_law 197 = .ok (.if_icmp .eq 297, 3) := by decide +kernel
theorem dL_law_202 : decode cL_law 202 = .ok (.aload_n 1, 1) := by decide +kernel
theorem dL_law_203 : decode cL_law 203 = .ok (.invokevirtual 34, 3) := by decide +kernel
theorem dL_law_206 : decode cL_law 206 = .ok (.aload_n 2, 1) := by decide +kernel
theorem dL_law_207 : decode cL_law 207 = .ok (.invokevirtual 38, 3) := by decide +kernel
theorem dL_law_210 : decode cL_law 210 = .ok (.if_icmp .eq 284, 3) := by decide +kernel
theorem dL_law_215 : decode cL_law 215 = .ok (.aload_n 1, 1) := by decide +kernel
theorem dL_law_216 : decode cL_law 216 = .ok (.aload_n 0, 1) := by decide +kernel
theorem dL_law_217 : decode cL_law 217 = .ok (.iload 4, 2) := by decide +kernel
theorem dL_law_219 : decode cL_law 219 = .ok (.iconst 1, 1) := by decide +kernel
theorem dL_law_220 : decode cL_law 220 = .ok (.iadd, 1) := by decide +kernel
theorem dL_law_221 : decode cL_law 221 = .ok (.iaload, 1) := by decide +kernel
theorem dL_law_222 : decode cL_law 222 = .ok (.invokevirtual 39, 3) := by decide +kernel
theorem dL_law_225 : decode cL_law 225 = .ok (.aload_n 2, 1) := by decide +kernel
theorem dL_law_226 : decode cL_law 226 = .ok (.aload_n 0, 1) := by decide +kernel
theorem dL_law_227 : decode cL_law 227 = .ok (.iload 4, 2) := by decide +kernel
theorem dL_law_229 : decode cL_law 229 = .ok (.iconst 1, 1) := by decide +kernel
theorem dL_law_230 : decode cL_law 230 = .ok (.iadd, 1) := by decide +kernel
theorem dL_law_231 : decode cL_law 231 = .ok (.iaload, 1) := by decide +kernel
theorem dL_law_232 : decode cL_law 232 = .ok (.invokevirtual 42, 3) := by decide +kernel
theorem dL_law_235 : decode cL_law 235 = .ok (.if_icmp .eq 259, 3) := by decide +kernel
theorem dL_law_240 : decode cL_law 240 = .ok (.aload_n 1, 1) := by decide +kernel
theorem dL_law_241 : decode cL_law 241 = .ok (.aload_n 0, 1) := by decide +kernel
theorem dL_law_242 : decode cL_law 242 = .ok (.iload 4, 2) := by decide +kernel
theorem dL_law_244 : decode cL_law 244 = .ok (.iconst 1, 1) := by decide +kernel
theorem dL_law_245 : decode cL_law 245 = .ok (.iadd, 1) := by decide +kernel
theorem dL_law_246 : decode cL_law 246 = .ok (.iaload, 1) := by decide +kernel
theorem dL_law_247 : decode cL_law 247 = .ok (.invokestatic 43, 3) := by decide +kernel
theorem dL_law_250 : decode cL_law 250 = .ok (.istore 5, 2) := by decide +kernel
theorem dL_law_252 : decode cL_law 252 = .ok (.aload_n 2, 1) := by decide +kernel
theorem dL_law_253 : decode cL_law 253 = .ok (.aload_n 0, 1) := by decide +kernel
theorem dL_law_254 : decode cL_law 254 = .ok (.iload 4, 2) := by decide +kernel
theorem dL_law_256 : decode cL_law 256 = .ok (.iconst 1, 1) := by decide +kernel
theorem dL_law_257 : decode cL_law 257 = .ok (.iadd, 1) := by decide +kernel
theorem dL_law_258 : decode cL_law 258 = .ok (.iaload, 1) := by decide +kernel
theorem dL_law_259 : decode cL_law 259 = .ok (.invokevirtual 48, 3) := by decide +kernel
theorem dL_law_262 : decode cL_law 262 = .ok (.aload_n 2, 1) := by decide +kernel
theorem dL_law_263 : decode cL_law 263 = .ok (.invokevirtual 49, 3) := by decide +kernel
theorem dL_law_266 : decode cL_law 266 = .ok (.iload 5, 2) := by decide +kernel
theorem dL_law_268 : decode cL_law 268 = .ok (.if_icmp .eq 5, 3) := by decide +kernel
theorem dL_law_273 : decode cL_law 273 = .ok (.goto 221, 3) := by decide +kernel
theorem dL_law_276 : decode cL_law 276 = .ok (.aload_n 1, 1) := by decide +kernel
theorem dL_law_277 : decode cL_law 277 = .ok (.aload_n 0, 1) := by decide +kernel
theorem dL_law_278 : decode cL_law 278 = .ok (.iload 4, 2) := by decide +kernel
theorem dL_law_280 : decode cL_law 280 = .ok (.iconst 1, 1) := by decide +kernel
theorem dL_law_281 : decode cL_law 281 = .ok (.iadd, 1) := by decide +kernel
theorem dL_law_282 : decode cL_law 282 = .ok (.iaload, 1) := by decide +kernel
theorem dL_law_283 : decode cL_law 283 = .ok (.aload_n 3, 1) := by decide +kernel
theorem dL_law_284 : decode cL_law 284 = .ok (.invokestatic 52, 3) := by decide +kernel
theorem dL_law_287 : decode cL_law 287 = .ok (.istore 5, 2) := by decide +kernel
theorem dL_law_289 : decode cL_law 289 = .ok (.aload_n 2, 1) := by decide +kernel
theorem dL_law_290 : decode cL_law 290 = .ok (.aload_n 0, 1) := by decide +kernel
theorem dL_law_291 : decode cL_law 291 = .ok (.iload 4, 2) := by decide +kernel
theorem dL_law_293 : decode cL_law 293 = .ok (.iconst 1, 1) := by decide +kernel
theorem dL_law_294 : decode cL_law 294 = .ok (.iadd, 1) := by decide +kernel
theorem dL_law_295 : decode cL_law 295 = .ok (.iaload, 1) := by decide +kernel
theorem dL_law_296 : decode cL_law 296 = .ok (.invokevirtual 55, 3) := by decide +kernel
theorem dL_law_299 : decode cL_law 299 = .ok (.istore 6, 2) := by decide +kernel
theorem dL_law_301 : decode cL_law 301 = .ok (.aload_n 2, 1) := by decide +kernel
theorem dL_law_302 : decode cL_law 302 = .ok (.invokevirtual 49, 3) := by decide +kernel
theorem dL_law_305 : decode cL_law 305 = .ok (.iload 5, 2) := by decide +kernel
theorem dL_law_307 : decode cL_law 307 = .ok (.if_icmp .eq 5, 3) := by decide +kernel
theorem dL_law_312 : decode cL_law 312 = .ok (.iload 5, 2) := by decide +kernel
theorem dL_law_314 : decode cL_law 314 = .ok (.ifCond .ne 15, 3) := by decide +kernel
theorem dL_law_329 : decode cL_law 329 = .ok (.goto 165, 3) := by decide +kernel
theorem dL_law_332 : decode cL_law 332 = .ok (.aload_n 1, 1) := by decide +kernel
theorem dL_law_333 : decode cL_law 333 = .ok (.aload_n 0, 1) := by decide +kernel
theorem dL_law_334 : decode cL_law 334 = .ok (.iload 4, 2) := by decide +kernel
theorem dL_law_336 : decode cL_law 336 = .ok (.iconst 1, 1) := by decide +kernel
theorem dL_law_337 : decode cL_law 337 = .ok (.iadd, 1) := by decide +kernel
theorem dL_law_338 : decode cL_law 338 = .ok (.iaload, 1) := by decide +kernel
theorem dL_law_339 : decode cL_law 339 = .ok (.invokevirtual 56, 3) := by decide +kernel
theorem dL_law_342 : decode cL_law 342 = .ok (.aload_n 2, 1) := by decide +kernel
theorem dL_law_343 : decode cL_law 343 = .ok (.aload_n 0, 1) := by decide +kernel
theorem dL_law_344 : decode cL_law 344 = .ok (.iload 4, 2) := by decide +kernel
theorem dL_law_346 : decode cL_law 346 = .ok (.iconst 1, 1) := by decide +kernel
theorem dL_law_347 : decode cL_law 347 = .ok (.iadd, 1) := by decide +kernel
theorem dL_law_348 : decode cL_law 348 = .ok (.iaload, 1) := by decide +kernel
theorem dL_law_349 : decode cL_law 349 = .ok (.invokevirtual 60, 3) := by decide +kernel
theorem dL_law_352 : decode cL_law 352 = .ok (.if_icmp .eq 142, 3) := by decide +kernel
theorem dL_law_357 : decode cL_law 357 = .ok (.aload_n 1, 1) := by decide +kernel
theorem dL_law_358 : decode cL_law 358 = .ok (.aload_n 0, 1) := by decide +kernel
theorem dL_law_359 : decode cL_law 359 = .ok (.iload 4, 2) := by decide +kernel
theorem dL_law_361 : decode cL_law 361 = .ok (.iconst 1, 1) := by decide +kernel
theorem dL_law_362 : decode cL_law 362 = .ok (.iadd, 1) := by decide +kernel
theorem dL_law_363 : decode cL_law 363 = .ok (.iaload, 1) := by decide +kernel
theorem dL_law_364 : decode cL_law 364 = .ok (.invokevirtual 61, 3) := by decide +kernel
theorem dL_law_367 : decode cL_law 367 = .ok (.aload_n 2, 1) := by decide +kernel
theorem dL_law_368 : decode cL_law 368 = .ok (.aload_n 0, 1) := by decide +kernel
theorem dL_law_369 : decode cL_law 369 = .ok (.iload 4, 2) := by decide +kernel
theorem dL_law_371 : decode cL_law 371 = .ok (.iconst 1, 1) := by decide +kernel
theorem dL_law_372 : decode cL_law 372 = .ok (.iadd, 1) := by decide +kernel
theorem dL_law_373 : decode cL_law 373 = .ok (.iaload, 1) := by decide +kernel
theorem dL_law_374 : decode cL_law 374 = .ok (.invokevirtual 64, 3) := by decide +kernel
theorem dL_law_377 : decode cL_law 377 = .ok (.if_icmp .eq 117, 3) := by decide +kernel
theorem dL_law_382 : decode cL_law 382 = .ok (.aload_n 1, 1) := by decide +kernel
theorem dL_law_383 : decode cL_law 383 = .ok (.aload_n 0, 1) := by decide +kernel
theorem dL_law_384 : decode cL_law 384 = .ok (.iload 4, 2) := by decide +kernel
theorem dL_law_386 : decode cL_law 386 = .ok (.iconst 1, 1) := by decide +kernel
theorem dL_law_387 : decode cL_law 387 = .ok (.iadd, 1) := by decide +kernel
theorem dL_law_388 : decode cL_law 388 = .ok (.iaload, 1) := by decide +kernel
theorem dL_law_389 : decode cL_law 389 = .ok (.aload_n 0, 1) := by decide +kernel
theorem dL_law_390 : decode cL_law 390 = .ok (.iload 4, 2) := by decide +kernel
theorem dL_law_392 : decode cL_law 392 = .ok (.iconst 2, 1) := by decide +kernel
theorem dL_law_393 : decode cL_law 393 = .ok (.iadd, 1) := by decide +kernel
theorem dL_law_394 : decode cL_law 394 = .ok (.iaload, 1) := by decide +kernel
theorem dL_law_395 : decode cL_law 395 = .ok (.invokevirtual 65, 3) := by decide +kernel
theorem dL_law_398 : decode cL_law 398 = .ok (.aload_n 2, 1) := by decide +kernel
theorem dL_law_399 : decode cL_law 399 = .ok (.aload_n 0, 1) := by decide +kernel
theorem dL_law_400 : decode cL_law 400 = .ok (.iload 4, 2) := by decide +kernel
theorem dL_law_402 : decode cL_law 402 = .ok (.iconst 1, 1) := by decide +kernel
theorem dL_law_403 : decode cL_law 403 = .ok (.iadd, 1) := by decide +kernel
theorem dL_law_404 : decode cL_law 404 = .ok (.iaload, 1) := by decide +kernel
theorem dL_law_405 : decode cL_law 405 = .ok (.aload_n 0, 1) := by decide +kernel
theorem dL_law_406 : decode cL_law 406 = .ok (.iload 4, 2) := by decide +kernel
theorem dL_law_408 : decode cL_law 408 = .ok (.iconst 2, 1) := by decide +kernel
theorem dL_law_409 : decode cL_law 409 = .ok (.iadd, 1) := by decide +kernel
theorem dL_law_410 : decode cL_law 410 = .ok (.iaload, 1) := by decide +kernel
theorem dL_law_411 : decode cL_law 411 = .ok (.invokevirtual 69, 3) := by decide +kernel
theorem dL_law_414 : decode cL_law 414 = .ok (.if_icmp .eq 80, 3) := by decide +kernel
theorem dL_law_419 : decode cL_law 419 = .ok (.aload_n 1, 1) := by decide +kernel
theorem dL_law_420 : decode cL_law 420 = .ok (.aload_n 0, 1) := by decide +kernel
theorem dL_law_421 : decode cL_law 421 = .ok (.iload 4, 2) := by decide +kernel
theorem dL_law_423 : decode cL_law 423 = .ok (.iconst 1, 1) := by decide +kernel
theorem dL_law_424 : decode cL_law 424 = .ok (.iadd, 1) := by decide +kernel
theorem dL_law_425 : decode cL_law 425 = .ok (.iaload, 1) := by decide +kernel
theorem dL_law_426 : decode cL_law 426 = .ok (.invokevirtual 70, 3) := by decide +kernel
theorem dL_law_429 : decode cL_law 429 = .ok (.aload_n 2, 1) := by decide +kernel
theorem dL_law_430 : decode cL_law 430 = .ok (.aload_n 0, 1) := by decide +kernel
theorem dL_law_431 : decode cL_law 431 = .ok (.iload 4, 2) := by decide +kernel
theorem dL_law_433 : decode cL_law 433 = .ok (.iconst 1, 1) := by decide +kernel
theorem dL_law_434 : decode cL_law 434 = .ok (.iadd, 1) := by decide +kernel
theorem dL_law_435 : decode cL_law 435 = .ok (.iaload, 1) := by decide +kernel
theorem dL_law_436 : decode cL_law 436 = .ok (.invokevirtual 73, 3) := by decide +kernel
theorem dL_law_439 : decode cL_law 439 = .ok (.if_icmp .eq 55, 3) := by decide +kernel
theorem dL_law_444 : decode cL_law 444 = .ok (.aload_n 1, 1) := by decide +kernel
theorem dL_law_445 : decode cL_law 445 = .ok (.aload_n 0, 1) := by decide +kernel
theorem dL_law_446 : decode cL_law 446 = .ok (.iload 4, 2) := by decide +kernel
theorem dL_law_448 : decode cL_law 448 = .ok (.iconst 1, 1) := by decide +kernel
theorem dL_law_449 : decode cL_law 449 = .ok (.iadd, 1) := by decide +kernel
theorem dL_law_450 : decode cL_law 450 = .ok (.iaload, 1) := by decide +kernel
theorem dL_law_451 : decode cL_law 451 = .ok (.aload_n 0, 1) := by decide +kernel
theorem dL_law_452 : decode cL_law 452 = .ok (.iload 4, 2) := by decide +kernel
theorem dL_law_454 : decode cL_law 454 = .ok (.iconst 2, 1) := by decide +kernel
theorem dL_law_455 : decode cL_law 455 = .ok (.iadd, 1) := by decide +kernel
theorem dL_law_456 : decode cL_law 456 = .ok (.iaload, 1) := by decide +kernel
theorem dL_law_457 : decode cL_law 457 = .ok (.invokevirtual 74, 3) := by decide +kernel
theorem dL_law_460 : decode cL_law 460 = .ok (.aload_n 2, 1) := by decide +kernel
theorem dL_law_461 : decode cL_law 461 = .ok (.aload_n 0, 1) := by decide +kernel
theorem dL_law_462 : decode cL_law 462 = .ok (.iload 4, 2) := by decide +kernel
theorem dL_law_464 : decode cL_law 464 = .ok (.iconst 1, 1) := by decide +kernel
theorem dL_law_465 : decode cL_law 465 = .ok (.iadd, 1) := by decide +kernel
theorem dL_law_466 : decode cL_law 466 = .ok (.iaload, 1) := by decide +kernel
theorem dL_law_467 : decode cL_law 467 = .ok (.aload_n 0, 1) := by decide +kernel
theorem dL_law_468 : decode cL_law 468 = .ok (.iload 4, 2) := by decide +kernel
theorem dL_law_470 : decode cL_law 470 = .ok (.iconst 2, 1) := by decide +kernel
theorem dL_law_471 : decode cL_law 471 = .ok (.iadd, 1) := by decide +kernel
theorem dL_law_472 : decode cL_law 472 = .ok (.iaload, 1) := by decide +kernel
theorem dL_law_473 : decode cL_law 473 = .ok (.invokevirtual 77, 3) := by decide +kernel
theorem dL_law_476 : decode cL_law 476 = .ok (.if_icmp .eq 18, 3) := by decide +kernel
theorem dL_law_481 : decode cL_law 481 = .ok (.aload_n 1, 1) := by decide +kernel
theorem dL_law_482 : decode cL_law 482 = .ok (.invokevirtual 78, 3) := by decide +kernel
theorem dL_law_485 : decode cL_law 485 = .ok (.aload_n 2, 1) := by decide +kernel
theorem dL_law_486 : decode cL_law 486 = .ok (.invokevirtual 81, 3) := by decide +kernel
theorem dL_law_489 : decode cL_law 489 = .ok (.if_icmp .eq 5, 3) := by decide +kernel
theorem dL_law_494 : decode cL_law 494 = .ok (.iinc 4 6, 3) := by decide +kernel
theorem dL_law_497 : decode cL_law 497 = .ok (.goto (-474), 3) := by decide +kernel
theorem dL_law_500 : decode cL_law 500 = .ok (.iconst 1, 1) := by decide +kernel
theorem dL_law_501 : decode cL_law 501 = .ok (.ireturn, 1) := by decide +kernel
/-! THE CLAIM OUT OF ONE WALK OF THE LAW'S BODY. Your part is whole_start (and what it stands on); all else here is the same for every law, but numbers. -/
def R_law : String := "MeetingHouseLaw"
def lw_P (b : Addr) (xs : List Int32) (args : Array Value) (s : State) : Prop := args = #[.ref b] ∧ s.IntsAt b xs ∧ xs.length ≤ 6 ∧ (Jvm.Cond.and given_1 narrow_1).before args s = true
def lw_Q (_ : Array Value) (s : State) (o : Outcome) (t : State) : Prop := o = .returned (some (.int 1)) ∧ Framed s o t [] 600002 7302232
def lw_Z (below : List Frame) (a : Array Value) (s : State) : State → Prop := fun t => ∃ o, t.status = .running ∧ Ended t below o ∧ lw_Q a s o t
/-- the law's own end, with 1 on the stack, nothing written that was there before, its room as the claim has it -/
theorem lw_ret {p : Program} {l : Launch} {e : Env} {s : State} {m : MethodId} {below : List Frame} {meth : Method} {c : Code} {b : Nat} (hx : p.tables.exec = Jvm.exec) (hb : c.code = code) (hr : meth.sig.returnType = ret) (hlocks : meth.locks = false) {pc : Nat} {H : Heap} {ls : Array Slot} (hdg : decode code pc = .ok (.ireturn, 1)) : W p l e room_1 s m #[Value.ref b] below meth c H [] 600002 7302232 (lw_Z below #[Value.ref b] s) (F0 m pc ls [.int 1]) := by
  intro T hT X
  obtain ⟨fs, hret, hrun, hended, hW, hframe⟩ := X.leave (v := some (.int 1)) (hlocks := hlocks) (fun h => by rw [hr] at h; cases h)
  have hmeth' : T.vm.method? m = some meth := X.method'
  refine ⟨T.setFrames fs, ?_, .returned (some (.int 1)), hrun, hended, rfl, ⟨_, rfl⟩, hW, hframe⟩
  jvm_step X.here [X.here.top, hx, hb, hdg, hmeth', hr, ret, narrow_b1]
  (try refine ⟨rfl, ?_⟩); (try refine ⟨rfl, ?_⟩)
  first | (intro acts; rw [hret _ acts rfl rfl rfl]) | rw [hret _ _ rfl rfl rfl]
  exact Steps.refl _
/-- what holds at the law's entry: the machine, the code, the tables' words (any of lw_tbl by 'hts w (by decide +kernel)'), the script of L ints xs at the cell b, what the Statement gives of the start (any of its parts by flat_of_before) -/
def lw_At (p : Program) (s : State) (m : MethodId) (meth : Method) (c : Code) (b L : Nat) (xs : Nat → Int32) : Prop :=
  p.tables.exec = Jvm.exec ∧ c.code = code ∧ meth.sig.returnType = ret ∧ c.maxLocals = 7 ∧ s.vm.findClass R_law = some m.cls ∧ (∀ w ∈ lw_tbl, w.before #[Value.ref b] s = true) ∧ va_X b L xs s s.heap ∧ b < s.heap.size ∧ meth.locks = false ∧ (Jvm.Cond.and given_1 narrow_1).before #[Value.ref b] s = true
theorem k_sub6 {L : Nat} (h : L < 6) : Int32.ofNat L - 6 < 0 := by
  rcases (show L = 0 ∨ L = 1 ∨ L = 2 ∨ L = 3 ∨ L = 4 ∨ L = 5 by omega) with rfl | rfl | rfl | rfl | rfl | rfl <;> decide
theorem k_rc0 (x : Int32) : ¬ rc x = 0 := by
  unfold rc
  split <;> decide
set_option maxHeartbeats 4000000 in
set_option maxRecDepth 100000 in
/-- from the entry, for every script of at most 6 ints, the law comes to its end with true -/
theorem whole_start {p : Program} {e : Env} {s : State} {m : MethodId} {below : List Frame} {meth : Method} {c : Code} (l : Launch) (hst : l.stackTraces = false) {b L : Nat} {xs : Nat → Int32} (hL : L ≤ 6) (C0 : lw_At p s m meth c b L xs) : W p l e room_1 s m #[Value.ref b] below meth c s.heap [] 0 0 (lw_Z below #[Value.ref b] s) (entryFrame m ([Value.ref b] : List Value).toArray 7) := by
  obtain ⟨hx, hb, hr, hml, hown, hts0, hX, hbl, hlocks, hgv⟩ := id C0
  have hb : c.code = cL_law := hb
  have hown : s.vm.findClass RL = some m.cls := hown
  have hts : ∀ w ∈ Cond.tt :: wP, w.before #[Value.ref b] s = true := fun w hw => (List.mem_cons.mp hw).elim (fun e => by rw [e]; rfl) (fun h => hts0 w (wI_P w h))
  have hfl := flat_of_before _ hgv
  have hA0 : ∀ a : Nat, a < s.heap.size → ¬ (fun q : Nat => s.heap.size ≤ q) a := fun _ h => Nat.not_le.mpr h
  have hF := sF.start hA0 hts0 hfl
  obtain ⟨s1, v1, hR1, hQ1⟩ := k_t1 hA0 hts0 hfl
  obtain ⟨s2, v2, hR2, hQ2⟩ := k_t2 hA0 hts0 hfl
  obtain ⟨s3, v3, hR3, hQ3⟩ := k_t3 hA0 hts0 hfl
  obtain ⟨sa, hsa⟩ := k_x1 hts0 hfl
  obtain ⟨sb, hsb⟩ := k_x2 hts0 hfl
  obtain ⟨sc, hsc⟩ := k_x3 hts0 hfl
  have hA : ∀ q : Nat, s.heap.size ≤ q → (fun q : Nat => s.heap.size ≤ q) q := fun _ h => h
  have hbA : ¬ (fun q : Nat => s.heap.size ≤ q) b := Nat.not_le.mpr hbl
  obtain ⟨cc0, iS0, hKn0⟩ := u_known (C := RX0) (T := TX0) (N := 8) (n := 8) hts0 wI_X0 (hts0 _ (tJ2 _ (List.mem_of_getElem? (i := 218) rfl)))
  obtain ⟨cc1, iS1, hKn1⟩ := u_known (C := RX1) (T := TX1) (N := 16) (n := 16) hts0 wI_X1 (hts0 _ (tJ3 _ (List.mem_of_getElem? (i := 67) rfl)))
  obtain ⟨cc2, iS2, hKn2⟩ := u_known (C := RX2) (T := TX2) (N := 13) (n := 13) hts0 wI_X2 (hts0 _ (tJ3 _ (List.mem_of_getElem? (i := 20) rfl)))
  obtain ⟨cc3, iS3, hKn3⟩ := u_known (C := RX3) (T := TX3) (N := 21) (n := 21) hts0 wI_X3 (hts0 _ (tJ3 _ (List.mem_of_getElem? (i := 14) rfl)))
  obtain ⟨cc4, iS4, hKn4⟩ := u_known (C := RX4) (T := TX4) (N := 16) (n := 16) hts0 wI_X4 (hts0 _ (tJ1 _ (List.mem_of_getElem? (i := 223) rfl)))
  obtain ⟨cc5, iS5, hKn5⟩ := u_known (C := RX5) (T := TX5) (N := 17) (n := 17) hts0 wI_X5 (hts0 _ (tJ3 _ (List.mem_of_getElem? (i := 74) rfl)))
  obtain ⟨cc6, iS6, hKn6⟩ := u_known (C := RX6) (T := TX6) (N := 17) (n := 17) hts0 wI_X6 (hts0 _ (tJ2 _ (List.mem_of_getElem? (i := 84) rfl)))
  obtain ⟨cc7, iS7, hKn7⟩ := u_known (C := RX7) (T := TX7) (N := 19) (n := 19) hts0 wI_X7 (hts0 _ (tJ1 _ (List.mem_of_getElem? (i := 37) rfl)))
  obtain ⟨cc8, iS8, hKn8⟩ := u_known (C := RX8) (T := TX8) (N := 17) (n := 17) hts0 wI_X8 (hts0 _ (tJ1 _ (List.mem_of_getElem? (i := 111) rfl)))
  obtain ⟨cc9, iS9, hKn9⟩ := u_known (C := RX9) (T := TX9) (N := 6) (n := 6) hts0 wI_X9 (hts0 _ (tJ2 _ (List.mem_of_getElem? (i := 58) rfl)))
  obtain ⟨cc10, iS10, hKn10⟩ := u_known (C := RX10) (T := TX10) (N := 19) (n := 19) hts0 wI_X10 (hts0 _ (tJ2 _ (List.mem_of_getElem? (i := 144) rfl)))
  obtain ⟨cc11, iS11, hKn11⟩ := u_known (C := RX11) (T := TX11) (N := 9) (n := 9) hts0 wI_X11 (hts0 _ (tJ1 _ (List.mem_of_getElem? (i := 29) rfl)))
  obtain ⟨cc12, iS12, hKn12⟩ := u_known (C := RX12) (T := TX12) (N := 6) (n := 6) hts0 wI_X12 (hts0 _ (tJ11 _ (List.mem_of_getElem? (i := 150) rfl)))
  obtain ⟨cc13, iS13, hKn13⟩ := u_known (C := RX13) (T := TX13) (N := 180) (n := 180) hts0 wI_X13 (hts0 _ (tJ11 _ (List.mem_of_getElem? (i := 144) rfl)))
  obtain ⟨dC, dI, hKc0⟩ : ∃ (dC : Nat → ClassId) (dI : Nat → Nat → Nat), ∀ (k : Nat) (q : vw_C), vwCl[k]? = some q → u_Kn s q.1 q.2.1 q.2.2 (dC k) (dI k) := by
    refine ⟨fun k => if k = 0 then cc0 else if k = 1 then cc1 else if k = 2 then cc2 else if k = 3 then cc3 else if k = 4 then cc4 else if k = 5 then cc5 else if k = 6 then cc6 else if k = 7 then cc7 else if k = 8 then cc8 else if k = 9 then cc9 else if k = 10 then cc10 else if k = 11 then cc11 else if k = 12 then cc12 else cc13, fun k => if k = 0 then iS0 else if k = 1 then iS1 else if k = 2 then iS2 else if k = 3 then iS3 else if k = 4 then iS4 else if k = 5 then iS5 else if k = 6 then iS6 else if k = 7 then iS7 else if k = 8 then iS8 else if k = 9 then iS9 else if k = 10 then iS10 else if k = 11 then iS11 else if k = 12 then iS12 else iS13, ?_⟩
    intro k q hq
    match k, hq with
    | 0, hq => cases hq; exact hKn0
    | 1, hq => cases hq; exact hKn1
    | 2, hq => cases hq; exact hKn2
    | 3, hq => cases hq; exact hKn3
    | 4, hq => cases hq; exact hKn4
    | 5, hq => cases hq; exact hKn5
    | 6, hq => cases hq; exact hKn6
    | 7, hq => cases hq; exact hKn7
    | 8, hq => cases hq; exact hKn8
    | 9, hq => cases hq; exact hKn9
    | 10, hq => cases hq; exact hKn10
    | 11, hq => cases hq; exact hKn11
    | 12, hq => cases hq; exact hKn12
    | 13, hq => cases hq; exact hKn13
    | k + 14, hq => simp [vwCl] at hq
  have hS : va_S (fun q : Nat => s.heap.size ≤ q) s.heap s.heap [] := va_S.rf
  have hK : va_K (dC, dI) vwCl [] s := ⟨hKc0, fun k q h => by simp at h⟩
  have hP : va_P (dC, dI) vwCl [] s.heap := fun k q h => by simp at h
  have hD : va_D (fun q : Nat => s.heap.size ≤ q) [] := ⟨fun i j p q h => by simp at h, fun k q h => by simp at h⟩
  have hl := lv_entry ([.ref b]) (n := 7) (Nat.le_of_ble_eq_true rfl)
  rw [lg_entry_eq]
  generalize (lg_sl ([.ref b]) ++ List.replicate (7 - (lg_sl ([.ref b])).length) Slot.unset).toArray = ls at hl ⊢
  have hl : lv_has ls 7 [(0, .ref b)] := hl
  obtain ⟨H, hHe⟩ : ∃ H, H = s.heap := ⟨_, rfl⟩
  have hS : va_S (fun q : Nat => s.heap.size ≤ q) s.heap H [] := by rw [hHe]; exact hS
  have hP : va_P (dC, dI) vwCl [] H := by rw [hHe]; exact hP
  refine (show W p l e room_1 s m #[Value.ref b] below meth c H [] 0 0 (lw_Z below #[Value.ref b] s) (F0 m 0 ls []) → _ from fun h => by rw [hHe] at h; exact h) ?_
  refine va_new (ci := 11) (fs := [.null, .null, .null, .null, .null, .null, .null, .null, .int 0]) (C := RX11) (T := TX11) (N := 9) hx hb hts iX11 tyX11 tyX11_ok hown (hts _ (bP 552 rfl)) (hts _ (bP 553 rfl)) (hts _ (bP 440 rfl)) hK hP hD hS hA rfl (fun j hj => by match j, hj with | 0, _ => rfl | 1, _ => rfl | 2, _ => rfl | 3, _ => rfl | 4, _ => rfl | 5, _ => rfl | 6, _ => rfl | 7, _ => rfl | 8, _ => rfl | j + 9, h => exact absurd h (by omega)) (Nat.le_of_ble_eq_true rfl) (Nat.le_of_ble_eq_true rfl) dL_law_0 (fun o1 H hP hD hS => ?_)
  obtain ⟨g1, hg1⟩ : ∃ z : List Value, z = [.null, .null, .null, .null, .null, .null, .null, .null, .int 0] := ⟨_, rfl⟩
  rw [← hg1] at hP hD
  have hG1 : kJ 9 [] g1 := ⟨by rw [hg1]; rfl, fun x hx => absurd hx List.not_mem_nil⟩
  clear hg1
  have hP : va_P (dC, dI) vwCl [(o1, .inr (11, g1))] H := hP
  have hD : va_D (fun q : Nat => s.heap.size ≤ q) [(o1, .inr (11, g1))] := hD
  refine lv_dup hx hb dL_law_3 rfl ?_
  have hPc := hP.sub (ws' := [(o1, .inr (11, g1))]) [0] rfl
  have hDc := hD.sub (ws' := [(o1, .inr (11, g1))]) [0] (by decide) rfl
  have hKc := hK.sub (tys' := []) [] rfl
  have hFc := va_free (wc := [(o1, .inr (11, g1))]) hD hS hA [0] rfl
  refine va_callv (va_runI (As := []) (rest := [.ref o1]) ⟨hx, hb, hml, hown, hts⟩ (c_MeetingHouse_init l dC dI o1 H.size g1) (cwI 0 hts (gP _ 339 rfl) rfl rfl rfl (hts _ (bP 440 rfl)) (hts _ (bP 554 rfl)) (hts _ (bP 555 rfl)) rfl (by decide +kernel) ⟨Nat.le_of_ble_eq_true rfl, Nat.le_of_ble_eq_true rfl⟩) ⟨fun a U g mk q => by obtain ⟨q0, q1, qJ, qP, qK, qD, r1, r2, r3⟩ := q; exact ⟨q0, q1, qJ, qP, va_K.moved (u := U) (U := U.calling g mk a) (Vm.Alike.refl U.vm) qK, qD, va_AO.moved (u := U) (U := U.calling g mk a) (Vm.Alike.refl U.vm) r1, va_Nw.same (u := U) (U := U.calling g mk a) rfl rfl r2, va_Nw.same (u := U) (U := U.calling g mk a) rfl rfl r3⟩, fun U hU hW => by have f := hF.moved (B := va_A [(o1, .inr (11, g1))] H.size) hW (by rw [hU]; exact hS.2.1) hFc; exact ⟨rfl, by rw [hU], kJ_sub hG1 (by simp), by rw [hU]; exact hPc, va_K.moved hW.alike hKc, hDc.weaken (fun _ _ _ _ => trivial), f.2.2.2.1.1, f.2.2.2.1.2.1, f.2.2.2.1.2.2⟩⟩ rfl rfl hl.1 rfl (lv_room (Nat.le_of_ble_eq_true rfl)) dL_law_4 ⟨Nat.le_of_ble_eq_true rfl, Nat.le_of_ble_eq_true rfl⟩) hS (fun q _ h => hFc q h) hFc (fun u t H1 locs ht hvm hw hB hz1 hk1 hS => ?_)
  obtain ⟨fx, ft, fr, fm, qt, qr, qm, t_tape, t_kind, t_value, t_line, t_blanks, t_letters, t_nameFrom, t_nameNext, t_bucket, ct_tape, ct_kind, ct_value, ct_line, ct_blanks, ct_letters, ct_nameFrom, ct_nameNext, ct_bucket⟩ := u
  obtain ⟨hJ, hT, hR, hM⟩ := hw
  obtain ⟨hP1, hK1, hD1⟩ := hB
  rw [ht] at hP1
  have hK1 := va_K.moved hvm.symm hK1
  obtain ⟨hP, hD⟩ := va_join (wr := []) (w1 := [(o1, .inr (11, fx)), (qt, .inr (7, ft)), (t_tape, .inl (ct_tape, 6000, .inl (fun _ => 0))), (t_kind, .inl (ct_kind, 6010, .inl (fun _ => 0))), (t_value, .inl (ct_value, 6010, .inl (fun _ => 0))), (t_line, .inl (ct_line, 6010, .inl (fun _ => 0))), (t_blanks, .inl (ct_blanks, 6010, .inl (fun _ => 0))), (t_letters, .inl (ct_letters, 6400, .inl (fun _ => 0))), (t_nameFrom, .inl (ct_nameFrom, 3150, .inl (fun _ => 0))), (t_nameNext, .inl (ct_nameNext, 3150, .inl (fun _ => 0))), (t_bucket, .inl (ct_bucket, 512, .inl (fun _ => 0))), (qr, .inr (8, fr)), (qm, .inr (3, fm))]) hP hD [0] [] rfl rfl (by decide) (by decide) hk1 hFc hP1 hD1
  have hK := (hK.sub (tys' := []) [] rfl).app hK1
  clear hPc hDc hKc hFc hP1 hK1 hD1 hk1 hz1
  generalize H1 = H at hP hS ⊢
  have hP : va_P (dC, dI) vwCl [(o1, .inr (11, fx)), (qt, .inr (7, ft)), (t_tape, .inl (ct_tape, 6000, .inl (fun _ => 0))), (t_kind, .inl (ct_kind, 6010, .inl (fun _ => 0))), (t_value, .inl (ct_value, 6010, .inl (fun _ => 0))), (t_line, .inl (ct_line, 6010, .inl (fun _ => 0))), (t_blanks, .inl (ct_blanks, 6010, .inl (fun _ => 0))), (t_letters, .inl (ct_letters, 6400, .inl (fun _ => 0))), (t_nameFrom, .inl (ct_nameFrom, 3150, .inl (fun _ => 0))), (t_nameNext, .inl (ct_nameNext, 3150, .inl (fun _ => 0))), (t_bucket, .inl (ct_bucket, 512, .inl (fun _ => 0))), (qr, .inr (8, fr)), (qm, .inr (3, fm))] H := hP
  have hD : va_D (fun q : Nat => s.heap.size ≤ q) [(o1, .inr (11, fx)), (qt, .inr (7, ft)), (t_tape, .inl (ct_tape, 6000, .inl (fun _ => 0))), (t_kind, .inl (ct_kind, 6010, .inl (fun _ => 0))), (t_value, .inl (ct_value, 6010, .inl (fun _ => 0))), (t_line, .inl (ct_line, 6010, .inl (fun _ => 0))), (t_blanks, .inl (ct_blanks, 6010, .inl (fun _ => 0))), (t_letters, .inl (ct_letters, 6400, .inl (fun _ => 0))), (t_nameFrom, .inl (ct_nameFrom, 3150, .inl (fun _ => 0))), (t_nameNext, .inl (ct_nameNext, 3150, .inl (fun _ => 0))), (t_bucket, .inl (ct_bucket, 512, .inl (fun _ => 0))), (qr, .inr (8, fr)), (qm, .inr (3, fm))] := hD
  have hK : va_K (dC, dI) vwCl [(ct_tape, .byte), (ct_kind, .int), (ct_value, .int), (ct_line, .int), (ct_blanks, .int), (ct_letters, .byte), (ct_nameFrom, .int), (ct_nameNext, .int), (ct_bucket, .int)] s := hK
  refine W.widen (k := 324) (n := 419161) (Nat.le_of_ble_eq_true rfl) (Nat.le_of_ble_eq_true rfl) ?_
  refine lv_astore_n (lv' := [(1, .ref o1), (0, .ref b)]) hx hb dL_law_7 rfl hl (by decide) rfl (fun ls hl => ?_)
  refine va_new (ci := 13) (fs := [.null, .int 0, .null, .int 0, .null, .null, .int 0, .null, .null, .null, .null, .int 0, .int 0, .int 0, .null, .null, .null, .int 0, .int 0, .null, .null, .null, .int 0, .int 0, .int 0, .int 0, .null, .null, .null, .null, .null, .null, .null, .null, .null, .int 0, .int 0, .int 0, .int 0, .int 0, .int 0, .null, .null, .int 0, .int 0, .null, .null, .null, .null, .null, .null, .null, .null, .null, .null, .null, .int 0, .null, .int 0, .int 0, .null, .null, .int 0, .null, .int 0, .int 0, .null, .null, .null, .null, .null, .null, .int 0, .int 0, .int 0, .int 0, .null, .null, .null, .long 0, .int 0, .null, .null, .null, .null, .null, .int 0, .int 0, .int 0, .int 0, .int 0, .int 0, .null, .int 0, .null, .null, .null, .null, .int 0, .int 0, .int 0, .null, .null, .null, .int 0, .null, .null, .null, .null, .null, .int 0, .null, .null, .null, .int 0, .int 0, .null, .null, .null, .int 0, .int 0, .null, .null, .int 0, .int 0, .int 0, .int 0, .int 0, .int 0, .int 0, .int 0, .int 0, .int 0, .int 0, .int 0, .int 0, .null, .int 0, .null, .int 0, .int 0, .int 0, .null, .int 0, .null, .null, .null, .null, .null, .null, .null, .null, .null, .null, .null, .null, .null, .null, .null, .null, .null, .int 0, .int 0, .int 0, .int 0, .null, .int 0, .int 0, .int 0, .int 0, .int 0, .null, .null, .int 0, .int 0, .null, .null, .int 0, .int 0, .int 0]) (C := RX13) (T := TX13) (N := 180) hx hb hts iX13 tyX13 tyX13_ok hown (hts _ (bP 556 rfl)) (hts _ (bP 557 rfl)) (hts _ (bP 149 rfl)) hK hP hD hS hA rfl (fun j hj => by match j, hj with | 0, _ => rfl | 1, _ => rfl | 2, _ => rfl | 3, _ => rfl | 4, _ => rfl | 5, _ => rfl | 6, _ => rfl | 7, _ => rfl | 8, _ => rfl | 9, _ => rfl | 10, _ => rfl | 11, _ => rfl | 12, _ => rfl | 13, _ => rfl | 14, _ => rfl | 15, _ => rfl | 16, _ => rfl | 17, _ => rfl | 18, _ => rfl | 19, _ => rfl | 20, _ => rfl | 21, _ => rfl | 22, _ => rfl | 23, _ => rfl | 24, _ => rfl | 25, _ => rfl | 26, _ => rfl | 27, _ => rfl | 28, _ => rfl | 29, _ => rfl | 30, _ => rfl | 31, _ => rfl | 32, _ => rfl | 33, _ => rfl | 34, _ => rfl | 35, _ => rfl | 36, _ => rfl | 37, _ => rfl | 38, _ => rfl | 39, _ => rfl | 40, _ => rfl | 41, _ => rfl | 42, _ => rfl | 43, _ => rfl | 44, _ => rfl | 45, _ => rfl | 46, _ => rfl | 47, _ => rfl | 48, _ => rfl | 49, _ => rfl | 50, _ => rfl | 51, _ => rfl | 52, _ => rfl | 53, _ => rfl | 54, _ => rfl | 55, _ => rfl | 56, _ => rfl | 57, _ => rfl | 58, _ => rfl | 59, _ => rfl | 60, _ => rfl | 61, _ => rfl | 62, _ => rfl | 63, _ => rfl | 64, _ => rfl | 65, _ => rfl | 66, _ => rfl | 67, _ => rfl | 68, _ => rfl | 69, _ => rfl | 70, _ => rfl | 71, _ => rfl | 72, _ => rfl | 73, _ => rfl | 74, _ => rfl | 75, _ => rfl | 76, _ => rfl | 77, _ => rfl | 78, _ => rfl | 79, _ => rfl | 80, _ => rfl | 81, _ => rfl | 82, _ => rfl | 83, _ => rfl | 84, _ => rfl | 85, _ => rfl | 86, _ => rfl | 87, _ => rfl | 88, _ => rfl | 89, _ => rfl | 90, _ => rfl | 91, _ => rfl | 92, _ => rfl | 93, _ => rfl | 94, _ => rfl | 95, _ => rfl | 96, _ => rfl | 97, _ => rfl | 98, _ => rfl | 99, _ => rfl | 100, _ => rfl | 101, _ => rfl | 102, _ => rfl | 103, _ => rfl | 104, _ => rfl | 105, _ => rfl | 106, _ => rfl | 107, _ => rfl | 108, _ => rfl | 109, _ => rfl | 110, _ => rfl | 111, _ => rfl | 112, _ => rfl | 113, _ => rfl | 114, _ => rfl | 115, _ => rfl | 116, _ => rfl | 117, _ => rfl | 118, _ => rfl | 119, _ => rfl | 120, _ => rfl | 121, _ => rfl | 122, _ => rfl | 123, _ => rfl | 124, _ => rfl | 125, _ => rfl | 126, _ => rfl | 127, _ => rfl | 128, _ => rfl | 129, _ => rfl | 130, _ => rfl | 131, _ => rfl | 132, _ => rfl | 133, _ => rfl | 134, _ => rfl | 135, _ => rfl | 136, _ => rfl | 137, _ => rfl | 138, _ => rfl | 139, _ => rfl | 140, _ => rfl | 141, _ => rfl | 142, _ => rfl | 143, _ => rfl | 144, _ => rfl | 145, _ => rfl | 146, _ => rfl | 147, _ => rfl | 148, _ => rfl | 149, _ => rfl | 150, _ => rfl | 151, _ => rfl | 152, _ => rfl | 153, _ => rfl | 154, _ => rfl | 155, _ => rfl | 156, _ => rfl | 157, _ => rfl | 158, _ => rfl | 159, _ => rfl | 160, _ => rfl | 161, _ => rfl | 162, _ => rfl | 163, _ => rfl | 164, _ => rfl | 165, _ => rfl | 166, _ => rfl | 167, _ => rfl | 168, _ => rfl | 169, _ => rfl | 170, _ => rfl | 171, _ => rfl | 172, _ => rfl | 173, _ => rfl | 174, _ => rfl | 175, _ => rfl | 176, _ => rfl | 177, _ => rfl | 178, _ => rfl | 179, _ => rfl | j + 180, h => exact absurd h (by omega)) (Nat.le_of_ble_eq_true rfl) (Nat.le_of_ble_eq_true rfl) dL_law_8 (fun o2 H hP hD hS => ?_)
  obtain ⟨g2, hg2⟩ : ∃ z : List Value, z = [.null, .int 0, .null, .int 0, .null, .null, .int 0, .null, .null, .null, .null, .int 0, .int 0, .int 0, .null, .null, .null, .int 0, .int 0, .null, .null, .null, .int 0, .int 0, .int 0, .int 0, .null, .null, .null, .null, .null, .null, .null, .null, .null, .int 0, .int 0, .int 0, .int 0, .int 0, .int 0, .null, .null, .int 0, .int 0, .null, .null, .null, .null, .null, .null, .null, .null, .null, .null, .null, .int 0, .null, .int 0, .int 0, .null, .null, .int 0, .null, .int 0, .int 0, .null, .null, .null, .null, .null, .null, .int 0, .int 0, .int 0, .int 0, .null, .null, .null, .long 0, .int 0, .null, .null, .null, .null, .null, .int 0, .int 0, .int 0, .int 0, .int 0, .int 0, .null, .int 0, .null, .null, .null, .null, .int 0, .int 0, .int 0, .null, .null, .null, .int 0, .null, .null, .null, .null, .null, .int 0, .null, .null, .null, .int 0, .int 0, .null, .null, .null, .int 0, .int 0, .null, .null, .int 0, .int 0, .int 0, .int 0, .int 0, .int 0, .int 0, .int 0, .int 0, .int 0, .int 0, .int 0, .int 0, .null, .int 0, .null, .int 0, .int 0, .int 0, .null, .int 0, .null, .null, .null, .null, .null, .null, .null, .null, .null, .null, .null, .null, .null, .null, .null, .null, .null, .int 0, .int 0, .int 0, .int 0, .null, .int 0, .int 0, .int 0, .int 0, .int 0, .null, .null, .int 0, .int 0, .null, .null, .int 0, .int 0, .int 0] := ⟨_, rfl⟩
  rw [← hg2] at hP hD
  have hG2 : kJ 180 [(3, .int 0), (110, .int 0), (123, .int 0)] g2 := ⟨by rw [hg2]; rfl, fun x hx => by rw [hg2]; simp only [List.mem_cons, List.not_mem_nil, or_false] at hx; rcases hx with rfl | rfl | rfl <;> rfl⟩
  clear hg2
  have hP : va_P (dC, dI) vwCl [(o1, .inr (11, fx)), (qt, .inr (7, ft)), (t_tape, .inl (ct_tape, 6000, .inl (fun _ => 0))), (t_kind, .inl (ct_kind, 6010, .inl (fun _ => 0))), (t_value, .inl (ct_value, 6010, .inl (fun _ => 0))), (t_line, .inl (ct_line, 6010, .inl (fun _ => 0))), (t_blanks, .inl (ct_blanks, 6010, .inl (fun _ => 0))), (t_letters, .inl (ct_letters, 6400, .inl (fun _ => 0))), (t_nameFrom, .inl (ct_nameFrom, 3150, .inl (fun _ => 0))), (t_nameNext, .inl (ct_nameNext, 3150, .inl (fun _ => 0))), (t_bucket, .inl (ct_bucket, 512, .inl (fun _ => 0))), (qr, .inr (8, fr)), (qm, .inr (3, fm)), (o2, .inr (13, g2))] H := hP
  have hD : va_D (fun q : Nat => s.heap.size ≤ q) [(o1, .inr (11, fx)), (qt, .inr (7, ft)), (t_tape, .inl (ct_tape, 6000, .inl (fun _ => 0))), (t_kind, .inl (ct_kind, 6010, .inl (fun _ => 0))), (t_value, .inl (ct_value, 6010, .inl (fun _ => 0))), (t_line, .inl (ct_line, 6010, .inl (fun _ => 0))), (t_blanks, .inl (ct_blanks, 6010, .inl (fun _ => 0))), (t_letters, .inl (ct_letters, 6400, .inl (fun _ => 0))), (t_nameFrom, .inl (ct_nameFrom, 3150, .inl (fun _ => 0))), (t_nameNext, .inl (ct_nameNext, 3150, .inl (fun _ => 0))), (t_bucket, .inl (ct_bucket, 512, .inl (fun _ => 0))), (qr, .inr (8, fr)), (qm, .inr (3, fm)), (o2, .inr (13, g2))] := hD
  refine lv_dup hx hb dL_law_11 rfl ?_
  have hPc := hP.sub (ws' := [(o2, .inr (13, g2))]) [13] rfl
  have hDc := hD.sub (ws' := [(o2, .inr (13, g2))]) [13] (by decide) rfl
  have hKc := hK.sub (tys' := []) [] rfl
  have hFc := va_free (wc := [(o2, .inr (13, g2))]) hD hS hA [13] rfl
  refine va_callv (va_runI (As := []) (rest := [.ref o2]) ⟨hx, hb, hml, hown, hts⟩ (c_Minit l dC dI o2 H.size g2) (cwI 0 hts (gP _ 558 rfl) rfl rfl rfl (hts _ (bP 149 rfl)) (hts _ (bP 559 rfl)) (hts _ (bP 560 rfl)) rfl (by decide +kernel) ⟨Nat.le_of_ble_eq_true rfl, Nat.le_of_ble_eq_true rfl⟩) ⟨fun a U g mk q => by obtain ⟨q0, q1, qJ, qP, qK, qD, r1⟩ := q; exact ⟨q0, q1, qJ, qP, va_K.moved (u := U) (U := U.calling g mk a) (Vm.Alike.refl U.vm) qK, qD, r1.moved (U := U.calling g mk a) (State.WarmedH.refl U) (fun _ _ _ => rfl) (fun _ h => h)⟩, fun U hU hW => by have f := hF.moved (B := va_A [(o2, .inr (13, g2))] H.size) hW (by rw [hU]; exact hS.2.1) hFc; exact ⟨rfl, by rw [hU], hG2, by rw [hU]; exact hPc, va_K.moved hW.alike hKc, hDc.weaken (fun _ _ _ _ => trivial), f.1⟩⟩ rfl rfl hl.1 rfl (lv_room (Nat.le_of_ble_eq_true rfl)) dL_law_12 ⟨Nat.le_of_ble_eq_true rfl, Nat.le_of_ble_eq_true rfl⟩) hS (fun q _ h => hFc q h) hFc (fun u t H1 locs ht hvm hw hB hz1 hk1 hS => ?_)
  obtain ⟨fs, fsH, qh, q2, q7, q8, q9, q10, c2, c7, c8, c9, c10⟩ := u
  obtain ⟨hMJ, hHJ⟩ := hw
  obtain ⟨hP1, hK1, hD1⟩ := hB
  rw [ht] at hP1
  have hK1 := va_K.moved hvm.symm hK1
  obtain ⟨hP, hD⟩ := va_join (wr := [(o1, .inr (11, fx)), (qt, .inr (7, ft)), (t_tape, .inl (ct_tape, 6000, .inl (fun _ => 0))), (t_kind, .inl (ct_kind, 6010, .inl (fun _ => 0))), (t_value, .inl (ct_value, 6010, .inl (fun _ => 0))), (t_line, .inl (ct_line, 6010, .inl (fun _ => 0))), (t_blanks, .inl (ct_blanks, 6010, .inl (fun _ => 0))), (t_letters, .inl (ct_letters, 6400, .inl (fun _ => 0))), (t_nameFrom, .inl (ct_nameFrom, 3150, .inl (fun _ => 0))), (t_nameNext, .inl (ct_nameNext, 3150, .inl (fun _ => 0))), (t_bucket, .inl (ct_bucket, 512, .inl (fun _ => 0))), (qr, .inr (8, fr)), (qm, .inr (3, fm))]) (w1 := [(o2, .inr (13, fs)), (qh, .inr (12, fsH)), (q2, .inl (c2, 6000, .inl (fun _ => 0))), (q7, .inl (c7, 12002, .inl (fun _ => 0))), (q8, .inl (c8, 12002, .inl (fun _ => 0))), (q9, .inl (c9, 12002, .inl (fun _ => 0))), (q10, .inl (c10, 12002, .inl (fun _ => 0)))]) hP hD [13] [0, 1, 2, 3, 4, 5, 6, 7, 8, 9, 10, 11, 12] rfl rfl (by decide) (by decide) hk1 hFc hP1 hD1
  have hK := (hK.sub (tys' := [(ct_tape, .byte), (ct_kind, .int), (ct_value, .int), (ct_line, .int), (ct_blanks, .int), (ct_letters, .byte), (ct_nameFrom, .int), (ct_nameNext, .int), (ct_bucket, .int)]) [0, 1, 2, 3, 4, 5, 6, 7, 8] rfl).app hK1
  clear hPc hDc hKc hFc hP1 hK1 hD1 hk1 hz1
  generalize H1 = H at hP hS ⊢
  have hP : va_P (dC, dI) vwCl [(o1, .inr (11, fx)), (qt, .inr (7, ft)), (t_tape, .inl (ct_tape, 6000, .inl (fun _ => 0))), (t_kind, .inl (ct_kind, 6010, .inl (fun _ => 0))), (t_value, .inl (ct_value, 6010, .inl (fun _ => 0))), (t_line, .inl (ct_line, 6010, .inl (fun _ => 0))), (t_blanks, .inl (ct_blanks, 6010, .inl (fun _ => 0))), (t_letters, .inl (ct_letters, 6400, .inl (fun _ => 0))), (t_nameFrom, .inl (ct_nameFrom, 3150, .inl (fun _ => 0))), (t_nameNext, .inl (ct_nameNext, 3150, .inl (fun _ => 0))), (t_bucket, .inl (ct_bucket, 512, .inl (fun _ => 0))), (qr, .inr (8, fr)), (qm, .inr (3, fm)), (o2, .inr (13, fs)), (qh, .inr (12, fsH)), (q2, .inl (c2, 6000, .inl (fun _ => 0))), (q7, .inl (c7, 12002, .inl (fun _ => 0))), (q8, .inl (c8, 12002, .inl (fun _ => 0))), (q9, .inl (c9, 12002, .inl (fun _ => 0))), (q10, .inl (c10, 12002, .inl (fun _ => 0)))] H := hP
  have hD : va_D (fun q : Nat => s.heap.size ≤ q) [(o1, .inr (11, fx)), (qt, .inr (7, ft)), (t_tape, .inl (ct_tape, 6000, .inl (fun _ => 0))), (t_kind, .inl (ct_kind, 6010, .inl (fun _ => 0))), (t_value, .inl (ct_value, 6010, .inl (fun _ => 0))), (t_line, .inl (ct_line, 6010, .inl (fun _ => 0))), (t_blanks, .inl (ct_blanks, 6010, .inl (fun _ => 0))), (t_letters, .inl (ct_letters, 6400, .inl (fun _ => 0))), (t_nameFrom, .inl (ct_nameFrom, 3150, .inl (fun _ => 0))), (t_nameNext, .inl (ct_nameNext, 3150, .inl (fun _ => 0))), (t_bucket, .inl (ct_bucket, 512, .inl (fun _ => 0))), (qr, .inr (8, fr)), (qm, .inr (3, fm)), (o2, .inr (13, fs)), (qh, .inr (12, fsH)), (q2, .inl (c2, 6000, .inl (fun _ => 0))), (q7, .inl (c7, 12002, .inl (fun _ => 0))), (q8, .inl (c8, 12002, .inl (fun _ => 0))), (q9, .inl (c9, 12002, .inl (fun _ => 0))), (q10, .inl (c10, 12002, .inl (fun _ => 0)))] := hD
  have hK : va_K (dC, dI) vwCl [(ct_tape, .byte), (ct_kind, .int), (ct_value, .int), (ct_line, .int), (ct_blanks, .int), (ct_letters, .byte), (ct_nameFrom, .int), (ct_nameNext, .int), (ct_bucket, .int), (c2, .int), (c7, .int), (c8, .int), (c9, .int), (c10, .int)] s := hK
  refine W.widen (k := 425) (n := 1267349) (Nat.le_of_ble_eq_true rfl) (Nat.le_of_ble_eq_true rfl) ?_
  refine lv_astore_n (lv' := [(2, .ref o2), (1, .ref o1), (0, .ref b)]) hx hb dL_law_15 rfl hl (by decide) rfl (fun ls hl => ?_)
  refine lv_iconst (v := 1) hx hb dL_law_16 (by decide) ?_
  refine k_newa (N' := 1) hx hb (hts _ (bP 55 rfl)) hP hD hS (by decide) (by decide) (by decide) (Nat.le_of_ble_eq_true rfl) (Nat.le_of_ble_eq_true rfl) dL_law_17 (fun qo H hP hD hS => ?_)
  refine W.widen (k := 426) (n := 1267350) (Nat.le_of_ble_eq_true rfl) (Nat.le_of_ble_eq_true rfl) ?_
  refine lv_astore_n (lv' := [(3, .ref qo), (2, .ref o2), (1, .ref o1), (0, .ref b)]) hx hb dL_law_19 rfl hl (by decide) rfl (fun ls hl => ?_)
  refine lv_iconst (v := 0) hx hb dL_law_20 (by decide) ?_
  refine lv_istore (lv' := [(4, .int 0), (3, .ref qo), (2, .ref o2), (1, .ref o1), (0, .ref b)]) hx hb dL_law_21 hl (by decide) rfl (fun ls hl => ?_)
  refine lv_iload hx hb dL_law_23 (lv_at hl 0 rfl) ?_
  refine lv_aload_n hx hb dL_law_25 rfl (lv_at hl 4 rfl) ?_
  refine va_slen hx hb hX hbl hbA hS dL_law_26 ?_
  refine lv_bipush (v := 6) hx hb dL_law_27 (by decide) ?_
  refine lv_isub hx hb dL_law_29 ?_
  by_cases h6 : L = 6
  · subst h6
    refine lv_icmp_gt (tgt := 500) hx hb dL_law_30 (by decide) (fun h => absurd h (by decide)) (fun _ => ?_)
    refine lv_aload_n hx hb dL_law_33 rfl (lv_at hl 4 rfl) ?_
    refine lv_iload hx hb dL_law_34 (lv_at hl 0 rfl) ?_
    refine va_sld hx hb hX hbl hbA hS (by unfold vp_in; decide) dL_law_36 ?_
    refine k_i (v := xs 0) (congrArg xs (by decide)) ?_
    refine lv_bipush (v := 15) hx hb dL_law_37 (by decide) ?_
    refine lv_iand hx hb dL_law_39 ?_
    obtain ⟨j, hj, ej⟩ := pk_andE (xs 0) (m := 15) 4 (by decide)
    have hj : j < 16 := hj
    refine k_i (v := nI j) ej ?_
    clear ej
    rcases (show j = 0 ∨ j = 1 ∨ j = 2 ∨ j = 3 ∨ j = 4 ∨ j = 5 ∨ j = 6 ∨ j = 7 ∨ j = 8 ∨ j = 9 ∨ j = 10 ∨ j = 11 ∨ j = 12 ∨ j = 13 ∨ j = 14 ∨ j = 15 by omega) with rfl | rfl | rfl | rfl | rfl | rfl | rfl | rfl | rfl | rfl | rfl | rfl | rfl | rfl | rfl | rfl
    · refine lv_tableIn (tgt := 104) hx hb dL_law_40 (by decide) (by decide) rfl (by decide) ?_
      refine lv_aload_n hx hb dL_law_104 rfl (lv_at hl 3 rfl) ?_
      refine lv_aload_n hx hb dL_law_105 rfl (lv_at hl 4 rfl) ?_
      refine lv_iload hx hb dL_law_106 (lv_at hl 0 rfl) ?_
      refine lv_iconst (v := 1) hx hb dL_law_108 (by decide) ?_
      refine lv_iadd hx hb dL_law_109 ?_
      refine k_i (v := 1) (by decide) ?_
      refine va_sld hx hb hX hbl hbA hS (by unfold vp_in; decide) dL_law_110 ?_
      refine k_i (v := xs 1) (congrArg xs (by decide)) ?_
      refine lv_aload_n hx hb dL_law_111 rfl (lv_at hl 4 rfl) ?_
      refine lv_iload hx hb dL_law_112 (lv_at hl 0 rfl) ?_
      refine lv_iconst (v := 2) hx hb dL_law_114 (by decide) ?_
      refine lv_iadd hx hb dL_law_115 ?_
      refine k_i (v := 2) (by decide) ?_
      refine va_sld hx hb hX hbl hbA hS (by unfold vp_in; decide) dL_law_116 ?_
      refine k_i (v := xs 2) (congrArg xs (by decide)) ?_
      refine lv_aload_n hx hb dL_law_117 rfl (lv_at hl 4 rfl) ?_
      refine lv_iload hx hb dL_law_118 (lv_at hl 0 rfl) ?_
      refine lv_iconst (v := 3) hx hb dL_law_120 (by decide) ?_
      refine lv_iadd hx hb dL_law_121 ?_
      refine k_i (v := 3) (by decide) ?_
      refine va_sld hx hb hX hbl hbA hS (by unfold vp_in; decide) dL_law_122 ?_
      refine k_i (v := xs 3) (congrArg xs (by decide)) ?_
      refine lv_aload_n hx hb dL_law_123 rfl (lv_at hl 4 rfl) ?_
      refine lv_iload hx hb dL_law_124 (lv_at hl 0 rfl) ?_
      refine lv_iconst (v := 4) hx hb dL_law_126 (by decide) ?_
      refine lv_iadd hx hb dL_law_127 ?_
      refine k_i (v := 4) (by decide) ?_
      refine va_sld hx hb hX hbl hbA hS (by unfold vp_in; decide) dL_law_128 ?_
      refine k_i (v := xs 4) (congrArg xs (by decide)) ?_
      refine lv_aload_n hx hb dL_law_129 rfl (lv_at hl 4 rfl) ?_
      refine lv_iload hx hb dL_law_130 (lv_at hl 0 rfl) ?_
      refine lv_iconst (v := 5) hx hb dL_law_132 (by decide) ?_
      refine lv_iadd hx hb dL_law_133 ?_
      refine k_i (v := 5) (by decide) ?_
      refine va_sld hx hb hX hbl hbA hS (by unfold vp_in; decide) dL_law_134 ?_
      refine k_i (v := xs 5) (congrArg xs (by decide)) ?_
      have hPc := hP.sub (ws' := [(o1, .inr (11, fx)), (qt, .inr (7, ft)), (t_tape, .inl (ct_tape, 6000, .inl (fun _ => 0)))]) [0, 1, 2] rfl
      have hDc := hD.sub (ws' := [(o1, .inr (11, fx)), (qt, .inr (7, ft)), (t_tape, .inl (ct_tape, 6000, .inl (fun _ => 0)))]) [0, 1, 2] (by decide) rfl
      have hKc := hK.sub (tys' := [(ct_tape, .byte)]) [0] rfl
      have hFc := va_free (wc := [(o1, .inr (11, fx)), (qt, .inr (7, ft)), (t_tape, .inl (ct_tape, 6000, .inl (fun _ => 0)))]) hD hS hA [0, 1, 2] rfl
      refine va_calli (va_runV (As := [.int (xs 1), .int (xs 2), .int (xs 3), .int (xs 4), .int (xs 5)]) (rest := []) ⟨hx, hb, hml, hown, hts⟩ (c_MeetingHouse_feed l dC dI o1 H.size fx ft qt t_tape ct_tape (fun _ => 0) (xs 1) (xs 2) (xs 3) (xs 4) (xs 5)) (cwV 5 hts (gV (y := yX11_feed) _ 561 562 563 440 425 rfl rfl rfl rfl rfl) rfl rfl rfl (by decide +kernel) ⟨Nat.le_of_ble_eq_true rfl, Nat.le_of_ble_eq_true rfl⟩) ⟨fun a U g mk q => by obtain ⟨q0, q1, qJ, qT, qP, qK, qD⟩ := q; exact ⟨q0, q1, qJ, qT, qP, va_K.moved (u := U) (U := U.calling g mk a) (Vm.Alike.refl U.vm) qK, qD⟩, va_recv hKc hPc (ci := 11) (q0 := 0) rfl rfl, fun U hU hW => ⟨rfl, by rw [hU], kJ_sub hJ (by simp), kJ_sub hT (by simp), by rw [hU]; exact hPc, va_K.moved hW.alike hKc, hDc.weaken (fun _ _ _ _ => trivial)⟩⟩ rfl rfl hl.1 rfl (lv_room (Nat.le_of_ble_eq_true rfl)) dL_law_135 ⟨Nat.le_of_ble_eq_true rfl, Nat.le_of_ble_eq_true rfl⟩) hS (fun q _ h => hFc q h) hFc (fun r u t H1 locs ht hvm hw hB hz1 hk1 hS => ?_)
      subst hw
      obtain ⟨hP, hD⟩ := va_join (wr := [(t_kind, .inl (ct_kind, 6010, .inl (fun _ => 0))), (t_value, .inl (ct_value, 6010, .inl (fun _ => 0))), (t_line, .inl (ct_line, 6010, .inl (fun _ => 0))), (t_blanks, .inl (ct_blanks, 6010, .inl (fun _ => 0))), (t_letters, .inl (ct_letters, 6400, .inl (fun _ => 0))), (t_nameFrom, .inl (ct_nameFrom, 3150, .inl (fun _ => 0))), (t_nameNext, .inl (ct_nameNext, 3150, .inl (fun _ => 0))), (t_bucket, .inl (ct_bucket, 512, .inl (fun _ => 0))), (qr, .inr (8, fr)), (qm, .inr (3, fm)), (o2, .inr (13, fs)), (qh, .inr (12, fsH)), (q2, .inl (c2, 6000, .inl (fun _ => 0))), (q7, .inl (c7, 12002, .inl (fun _ => 0))), (q8, .inl (c8, 12002, .inl (fun _ => 0))), (q9, .inl (c9, 12002, .inl (fun _ => 0))), (q10, .inl (c10, 12002, .inl (fun _ => 0)))]) (w1 := []) hP hD [0, 1, 2] [3, 4, 5, 6, 7, 8, 9, 10, 11, 12, 13, 14, 15, 16, 17, 18, 19] rfl rfl (by decide) (by decide) hk1 hFc (va_P_nil (H := H1)) va_D_nil
      have hK := hK.sub (tys' := [(ct_kind, .int), (ct_value, .int), (ct_line, .int), (ct_blanks, .int), (ct_letters, .byte), (ct_nameFrom, .int), (ct_nameNext, .int), (ct_bucket, .int), (c2, .int), (c7, .int), (c8, .int), (c9, .int), (c10, .int)]) [1, 2, 3, 4, 5, 6, 7, 8, 9, 10, 11, 12, 13] rfl
      clear hPc hDc hKc hFc hk1 hz1 ht hB
      generalize H1 = H at hP hS ⊢
      have hP : va_P (dC, dI) vwCl [(t_kind, .inl (ct_kind, 6010, .inl (fun _ => 0))), (t_value, .inl (ct_value, 6010, .inl (fun _ => 0))), (t_line, .inl (ct_line, 6010, .inl (fun _ => 0))), (t_blanks, .inl (ct_blanks, 6010, .inl (fun _ => 0))), (t_letters, .inl (ct_letters, 6400, .inl (fun _ => 0))), (t_nameFrom, .inl (ct_nameFrom, 3150, .inl (fun _ => 0))), (t_nameNext, .inl (ct_nameNext, 3150, .inl (fun _ => 0))), (t_bucket, .inl (ct_bucket, 512, .inl (fun _ => 0))), (qr, .inr (8, fr)), (qm, .inr (3, fm)), (o2, .inr (13, fs)), (qh, .inr (12, fsH)), (q2, .inl (c2, 6000, .inl (fun _ => 0))), (q7, .inl (c7, 12002, .inl (fun _ => 0))), (q8, .inl (c8, 12002, .inl (fun _ => 0))), (q9, .inl (c9, 12002, .inl (fun _ => 0))), (q10, .inl (c10, 12002, .inl (fun _ => 0)))] H := hP
      have hD : va_D (fun q : Nat => s.heap.size ≤ q) [(t_kind, .inl (ct_kind, 6010, .inl (fun _ => 0))), (t_value, .inl (ct_value, 6010, .inl (fun _ => 0))), (t_line, .inl (ct_line, 6010, .inl (fun _ => 0))), (t_blanks, .inl (ct_blanks, 6010, .inl (fun _ => 0))), (t_letters, .inl (ct_letters, 6400, .inl (fun _ => 0))), (t_nameFrom, .inl (ct_nameFrom, 3150, .inl (fun _ => 0))), (t_nameNext, .inl (ct_nameNext, 3150, .inl (fun _ => 0))), (t_bucket, .inl (ct_bucket, 512, .inl (fun _ => 0))), (qr, .inr (8, fr)), (qm, .inr (3, fm)), (o2, .inr (13, fs)), (qh, .inr (12, fsH)), (q2, .inl (c2, 6000, .inl (fun _ => 0))), (q7, .inl (c7, 12002, .inl (fun _ => 0))), (q8, .inl (c8, 12002, .inl (fun _ => 0))), (q9, .inl (c9, 12002, .inl (fun _ => 0))), (q10, .inl (c10, 12002, .inl (fun _ => 0)))] := hD
      refine lv_aload_n hx hb dL_law_138 rfl (lv_at hl 2 rfl) ?_
      refine lv_aload_n hx hb dL_law_139 rfl (lv_at hl 4 rfl) ?_
      refine lv_iload hx hb dL_law_140 (lv_at hl 0 rfl) ?_
      refine lv_iconst (v := 1) hx hb dL_law_142 (by decide) ?_
      refine lv_iadd hx hb dL_law_143 ?_
      refine k_i (v := 1) (by decide) ?_
      refine va_sld hx hb hX hbl hbA hS (by unfold vp_in; decide) dL_law_144 ?_
      refine k_i (v := xs 1) (congrArg xs (by decide)) ?_
      refine lv_aload_n hx hb dL_law_145 rfl (lv_at hl 4 rfl) ?_
      refine lv_iload hx hb dL_law_146 (lv_at hl 0 rfl) ?_
      refine lv_iconst (v := 2) hx hb dL_law_148 (by decide) ?_
      refine lv_iadd hx hb dL_law_149 ?_
      refine k_i (v := 2) (by decide) ?_
      refine va_sld hx hb hX hbl hbA hS (by unfold vp_in; decide) dL_law_150 ?_
      refine k_i (v := xs 2) (congrArg xs (by decide)) ?_
      refine lv_aload_n hx hb dL_law_151 rfl (lv_at hl 4 rfl) ?_
      refine lv_iload hx hb dL_law_152 (lv_at hl 0 rfl) ?_
      refine lv_iconst (v := 3) hx hb dL_law_154 (by decide) ?_
      refine lv_iadd hx hb dL_law_155 ?_
      refine k_i (v := 3) (by decide) ?_
      refine va_sld hx hb hX hbl hbA hS (by unfold vp_in; decide) dL_law_156 ?_
      refine k_i (v := xs 3) (congrArg xs (by decide)) ?_
      refine lv_aload_n hx hb dL_law_157 rfl (lv_at hl 4 rfl) ?_
      refine lv_iload hx hb dL_law_158 (lv_at hl 0 rfl) ?_
      refine lv_iconst (v := 4) hx hb dL_law_160 (by decide) ?_
      refine lv_iadd hx hb dL_law_161 ?_
      refine k_i (v := 4) (by decide) ?_
      refine va_sld hx hb hX hbl hbA hS (by unfold vp_in; decide) dL_law_162 ?_
      refine k_i (v := xs 4) (congrArg xs (by decide)) ?_
      refine lv_aload_n hx hb dL_law_163 rfl (lv_at hl 4 rfl) ?_
      refine lv_iload hx hb dL_law_164 (lv_at hl 0 rfl) ?_
      refine lv_iconst (v := 5) hx hb dL_law_166 (by decide) ?_
      refine lv_iadd hx hb dL_law_167 ?_
      refine k_i (v := 5) (by decide) ?_
      refine va_sld hx hb hX hbl hbA hS (by unfold vp_in; decide) dL_law_168 ?_
      refine k_i (v := xs 5) (congrArg xs (by decide)) ?_
      have hPc := hP.sub (ws' := [(o2, .inr (13, fs)), (q2, .inl (c2, 6000, .inl (fun _ => 0)))]) [10, 12] rfl
      have hDc := hD.sub (ws' := [(o2, .inr (13, fs)), (q2, .inl (c2, 6000, .inl (fun _ => 0)))]) [10, 12] (by decide) rfl
      have hKc := hK.sub (tys' := [(c2, .int)]) [8] rfl
      have hFc := va_free (wc := [(o2, .inr (13, fs)), (q2, .inl (c2, 6000, .inl (fun _ => 0)))]) hD hS hA [10, 12] rfl
      refine va_calli (va_runV (As := [.int (xs 1), .int (xs 2), .int (xs 3), .int (xs 4), .int (xs 5)]) (rest := [.int 20]) ⟨hx, hb, hml, hown, hts⟩ (c_M_feed l dC dI o2 H.size fs q2 c2 (fun _ => 0) (xs 1) (xs 2) (xs 3) (xs 4) (xs 5)) (cwV 5 hts (gV (y := yX13_feed) _ 564 565 566 149 156 rfl rfl rfl rfl rfl) rfl rfl rfl (by decide +kernel) ⟨Nat.le_of_ble_eq_true rfl, Nat.le_of_ble_eq_true rfl⟩) ⟨fun a U g mk q => by obtain ⟨q0, q1, qJ, qP, qK, qD⟩ := q; exact ⟨q0, q1, qJ, qP, va_K.moved (u := U) (U := U.calling g mk a) (Vm.Alike.refl U.vm) qK, qD⟩, va_recv hKc hPc (ci := 13) (q0 := 0) rfl rfl, fun U hU hW => ⟨rfl, by rw [hU], kJ_sub hMJ (by simp [mL]), by rw [hU]; exact hPc, va_K.moved hW.alike hKc, hDc.weaken (fun _ _ _ _ => trivial)⟩⟩ rfl rfl hl.1 rfl (lv_room (Nat.le_of_ble_eq_true rfl)) dL_law_169 ⟨Nat.le_of_ble_eq_true rfl, Nat.le_of_ble_eq_true rfl⟩) hS (fun q _ h => hFc q h) hFc (fun r u t H1 locs ht hvm hw hB hz1 hk1 hS => ?_)
      subst hw
      obtain ⟨hP, hD⟩ := va_join (wr := [(t_kind, .inl (ct_kind, 6010, .inl (fun _ => 0))), (t_value, .inl (ct_value, 6010, .inl (fun _ => 0))), (t_line, .inl (ct_line, 6010, .inl (fun _ => 0))), (t_blanks, .inl (ct_blanks, 6010, .inl (fun _ => 0))), (t_letters, .inl (ct_letters, 6400, .inl (fun _ => 0))), (t_nameFrom, .inl (ct_nameFrom, 3150, .inl (fun _ => 0))), (t_nameNext, .inl (ct_nameNext, 3150, .inl (fun _ => 0))), (t_bucket, .inl (ct_bucket, 512, .inl (fun _ => 0))), (qr, .inr (8, fr)), (qm, .inr (3, fm)), (qh, .inr (12, fsH)), (q7, .inl (c7, 12002, .inl (fun _ => 0))), (q8, .inl (c8, 12002, .inl (fun _ => 0))), (q9, .inl (c9, 12002, .inl (fun _ => 0))), (q10, .inl (c10, 12002, .inl (fun _ => 0)))]) (w1 := []) hP hD [10, 12] [0, 1, 2, 3, 4, 5, 6, 7, 8, 9, 11, 13, 14, 15, 16] rfl rfl (by decide) (by decide) hk1 hFc (va_P_nil (H := H1)) va_D_nil
      have hK := hK.sub (tys' := [(ct_kind, .int), (ct_value, .int), (ct_line, .int), (ct_blanks, .int), (ct_letters, .byte), (ct_nameFrom, .int), (ct_nameNext, .int), (ct_bucket, .int), (c7, .int), (c8, .int), (c9, .int), (c10, .int)]) [0, 1, 2, 3, 4, 5, 6, 7, 9, 10, 11, 12] rfl
      clear hPc hDc hKc hFc hk1 hz1 ht hB
      generalize H1 = H at hP hS ⊢
      have hP : va_P (dC, dI) vwCl [(t_kind, .inl (ct_kind, 6010, .inl (fun _ => 0))), (t_value, .inl (ct_value, 6010, .inl (fun _ => 0))), (t_line, .inl (ct_line, 6010, .inl (fun _ => 0))), (t_blanks, .inl (ct_blanks, 6010, .inl (fun _ => 0))), (t_letters, .inl (ct_letters, 6400, .inl (fun _ => 0))), (t_nameFrom, .inl (ct_nameFrom, 3150, .inl (fun _ => 0))), (t_nameNext, .inl (ct_nameNext, 3150, .inl (fun _ => 0))), (t_bucket, .inl (ct_bucket, 512, .inl (fun _ => 0))), (qr, .inr (8, fr)), (qm, .inr (3, fm)), (qh, .inr (12, fsH)), (q7, .inl (c7, 12002, .inl (fun _ => 0))), (q8, .inl (c8, 12002, .inl (fun _ => 0))), (q9, .inl (c9, 12002, .inl (fun _ => 0))), (q10, .inl (c10, 12002, .inl (fun _ => 0)))] H := hP
      have hD : va_D (fun q : Nat => s.heap.size ≤ q) [(t_kind, .inl (ct_kind, 6010, .inl (fun _ => 0))), (t_value, .inl (ct_value, 6010, .inl (fun _ => 0))), (t_line, .inl (ct_line, 6010, .inl (fun _ => 0))), (t_blanks, .inl (ct_blanks, 6010, .inl (fun _ => 0))), (t_letters, .inl (ct_letters, 6400, .inl (fun _ => 0))), (t_nameFrom, .inl (ct_nameFrom, 3150, .inl (fun _ => 0))), (t_nameNext, .inl (ct_nameNext, 3150, .inl (fun _ => 0))), (t_bucket, .inl (ct_bucket, 512, .inl (fun _ => 0))), (qr, .inr (8, fr)), (qm, .inr (3, fm)), (qh, .inr (12, fsH)), (q7, .inl (c7, 12002, .inl (fun _ => 0))), (q8, .inl (c8, 12002, .inl (fun _ => 0))), (q9, .inl (c9, 12002, .inl (fun _ => 0))), (q10, .inl (c10, 12002, .inl (fun _ => 0)))] := hD
      refine lv_icmp_eq (tgt := 494) hx hb dL_law_172 (by decide) (fun _ => ?_) (fun h => absurd rfl h)
      refine lv_iinc (v := 6) (lv' := [(4, .int 6), (3, .ref qo), (2, .ref o2), (1, .ref o1), (0, .ref b)]) hx hb dL_law_494 hl (k := 0) rfl (by decide) (by decide) rfl (fun ls hl => ?_)
      refine lv_goto (tgt := 23) hx hb dL_law_497 (by decide) ?_
      refine lv_iload hx hb dL_law_23 (lv_at hl 0 rfl) ?_
      refine lv_aload_n hx hb dL_law_25 rfl (lv_at hl 4 rfl) ?_
      refine va_slen hx hb hX hbl hbA hS dL_law_26 ?_
      refine lv_bipush (v := 6) hx hb dL_law_27 (by decide) ?_
      refine lv_isub hx hb dL_law_29 ?_
      refine lv_icmp_gt (tgt := 500) hx hb dL_law_30 (by decide) (fun _ => ?_) (fun h => absurd (by decide) h)
      refine lv_iconst (v := 1) hx hb dL_law_500 (by decide) ?_
      refine va_forget hS.2.2 ?_
      refine W.widen (k := 600002) (n := 7302232) (Nat.le_of_ble_eq_true rfl) (Nat.le_of_ble_eq_true rfl) ?_
      exact lw_ret hx hb hr hlocks dL_law_501
    · refine lv_tableIn (tgt := 177) hx hb dL_law_40 (by decide) (by decide) rfl (by decide) ?_
      refine lv_aload_n hx hb dL_law_177 rfl (lv_at hl 3 rfl) ?_
      refine lv_aload_n hx hb dL_law_178 rfl (lv_at hl 4 rfl) ?_
      refine lv_iload hx hb dL_law_179 (lv_at hl 0 rfl) ?_
      refine lv_iconst (v := 1) hx hb dL_law_181 (by decide) ?_
      refine lv_iadd hx hb dL_law_182 ?_
      refine k_i (v := 1) (by decide) ?_
      refine va_sld hx hb hX hbl hbA hS (by unfold vp_in; decide) dL_law_183 ?_
      refine k_i (v := xs 1) (congrArg xs (by decide)) ?_
      have hPc := hP.sub (ws' := [(o1, .inr (11, fx)), (qt, .inr (7, ft))]) [0, 1] rfl
      have hDc := hD.sub (ws' := [(o1, .inr (11, fx)), (qt, .inr (7, ft))]) [0, 1] (by decide) rfl
      have hKc := hK.sub (tys' := []) [] rfl
      have hFc := va_free (wc := [(o1, .inr (11, fx)), (qt, .inr (7, ft))]) hD hS hA [0, 1] rfl
      refine va_calli (va_runV (As := [.int (xs 1)]) (rest := []) ⟨hx, hb, hml, hown, hts⟩ (c_MeetingHouse_back l dC dI o1 H.size fx ft qt (xs 1)) (cwV 1 hts (gV (y := yX11_back) _ 567 568 569 440 422 rfl rfl rfl rfl rfl) rfl rfl rfl (by decide +kernel) ⟨Nat.le_of_ble_eq_true rfl, Nat.le_of_ble_eq_true rfl⟩) ⟨fun a U g mk q => by obtain ⟨q0, q1, qJ, qT, qP, qK, qD⟩ := q; exact ⟨q0, q1, qJ, qT, qP, va_K.moved (u := U) (U := U.calling g mk a) (Vm.Alike.refl U.vm) qK, qD⟩, va_recv hKc hPc (ci := 11) (q0 := 0) rfl rfl, fun U hU hW => ⟨rfl, by rw [hU], kJ_sub hJ (by simp), kJ_sub hT (by simp), by rw [hU]; exact hPc, va_K.moved hW.alike hKc, hDc.weaken (fun _ _ _ _ => trivial)⟩⟩ rfl rfl hl.1 rfl (lv_room (Nat.le_of_ble_eq_true rfl)) dL_law_184 ⟨Nat.le_of_ble_eq_true rfl, Nat.le_of_ble_eq_true rfl⟩) hS (fun q _ h => hFc q h) hFc (fun r u t H1 locs ht hvm hw hB hz1 hk1 hS => ?_)
      subst hw
      obtain ⟨hP, hD⟩ := va_join (wr := [(t_tape, .inl (ct_tape, 6000, .inl (fun _ => 0))), (t_kind, .inl (ct_kind, 6010, .inl (fun _ => 0))), (t_value, .inl (ct_value, 6010, .inl (fun _ => 0))), (t_line, .inl (ct_line, 6010, .inl (fun _ => 0))), (t_blanks, .inl (ct_blanks, 6010, .inl (fun _ => 0))), (t_letters, .inl (ct_letters, 6400, .inl (fun _ => 0))), (t_nameFrom, .inl (ct_nameFrom, 3150, .inl (fun _ => 0))), (t_nameNext, .inl (ct_nameNext, 3150, .inl (fun _ => 0))), (t_bucket, .inl (ct_bucket, 512, .inl (fun _ => 0))), (qr, .inr (8, fr)), (qm, .inr (3, fm)), (o2, .inr (13, fs)), (qh, .inr (12, fsH)), (q2, .inl (c2, 6000, .inl (fun _ => 0))), (q7, .inl (c7, 12002, .inl (fun _ => 0))), (q8, .inl (c8, 12002, .inl (fun _ => 0))), (q9, .inl (c9, 12002, .inl (fun _ => 0))), (q10, .inl (c10, 12002, .inl (fun _ => 0)))]) (w1 := []) hP hD [0, 1] [2, 3, 4, 5, 6, 7, 8, 9, 10, 11, 12, 13, 14, 15, 16, 17, 18, 19] rfl rfl (by decide) (by decide) hk1 hFc (va_P_nil (H := H1)) va_D_nil
      have hK := hK.sub (tys' := [(ct_tape, .byte), (ct_kind, .int), (ct_value, .int), (ct_line, .int), (ct_blanks, .int), (ct_letters, .byte), (ct_nameFrom, .int), (ct_nameNext, .int), (ct_bucket, .int), (c2, .int), (c7, .int), (c8, .int), (c9, .int), (c10, .int)]) [0, 1, 2, 3, 4, 5, 6, 7, 8, 9, 10, 11, 12, 13] rfl
      clear hPc hDc hKc hFc hk1 hz1 ht hB
      generalize H1 = H at hP hS ⊢
      have hP : va_P (dC, dI) vwCl [(t_tape, .inl (ct_tape, 6000, .inl (fun _ => 0))), (t_kind, .inl (ct_kind, 6010, .inl (fun _ => 0))), (t_value, .inl (ct_value, 6010, .inl (fun _ => 0))), (t_line, .inl (ct_line, 6010, .inl (fun _ => 0))), (t_blanks, .inl (ct_blanks, 6010, .inl (fun _ => 0))), (t_letters, .inl (ct_letters, 6400, .inl (fun _ => 0))), (t_nameFrom, .inl (ct_nameFrom, 3150, .inl (fun _ => 0))), (t_nameNext, .inl (ct_nameNext, 3150, .inl (fun _ => 0))), (t_bucket, .inl (ct_bucket, 512, .inl (fun _ => 0))), (qr, .inr (8, fr)), (qm, .inr (3, fm)), (o2, .inr (13, fs)), (qh, .inr (12, fsH)), (q2, .inl (c2, 6000, .inl (fun _ => 0))), (q7, .inl (c7, 12002, .inl (fun _ => 0))), (q8, .inl (c8, 12002, .inl (fun _ => 0))), (q9, .inl (c9, 12002, .inl (fun _ => 0))), (q10, .inl (c10, 12002, .inl (fun _ => 0)))] H := hP
      have hD : va_D (fun q : Nat => s.heap.size ≤ q) [(t_tape, .inl (ct_tape, 6000, .inl (fun _ => 0))), (t_kind, .inl (ct_kind, 6010, .inl (fun _ => 0))), (t_value, .inl (ct_value, 6010, .inl (fun _ => 0))), (t_line, .inl (ct_line, 6010, .inl (fun _ => 0))), (t_blanks, .inl (ct_blanks, 6010, .inl (fun _ => 0))), (t_letters, .inl (ct_letters, 6400, .inl (fun _ => 0))), (t_nameFrom, .inl (ct_nameFrom, 3150, .inl (fun _ => 0))), (t_nameNext, .inl (ct_nameNext, 3150, .inl (fun _ => 0))), (t_bucket, .inl (ct_bucket, 512, .inl (fun _ => 0))), (qr, .inr (8, fr)), (qm, .inr (3, fm)), (o2, .inr (13, fs)), (qh, .inr (12, fsH)), (q2, .inl (c2, 6000, .inl (fun _ => 0))), (q7, .inl (c7, 12002, .inl (fun _ => 0))), (q8, .inl (c8, 12002, .inl (fun _ => 0))), (q9, .inl (c9, 12002, .inl (fun _ => 0))), (q10, .inl (c10, 12002, .inl (fun _ => 0)))] := hD
      refine lv_aload_n hx hb dL_law_187 rfl (lv_at hl 2 rfl) ?_
      refine lv_aload_n hx hb dL_law_188 rfl (lv_at hl 4 rfl) ?_
      refine lv_iload hx hb dL_law_189 (lv_at hl 0 rfl) ?_
      refine lv_iconst (v := 1) hx hb dL_law_191 (by decide) ?_
      refine lv_iadd hx hb dL_law_192 ?_
      refine k_i (v := 1) (by decide) ?_
      refine va_sld hx hb hX hbl hbA hS (by unfold vp_in; decide) dL_law_193 ?_
      refine k_i (v := xs 1) (congrArg xs (by decide)) ?_
      have hPc := hP.sub (ws' := [(o2, .inr (13, fs))]) [11] rfl
      have hDc := hD.sub (ws' := [(o2, .inr (13, fs))]) [11] (by decide) rfl
      have hKc := hK.sub (tys' := []) [] rfl
      have hFc := va_free (wc := [(o2, .inr (13, fs))]) hD hS hA [11] rfl
      refine va_calli (va_runV (As := [.int (xs 1)]) (rest := [.int (bk (xs 1))]) ⟨hx, hb, hml, hown, hts⟩ (c_M_back l dC dI o2 H.size fs (xs 1)) (cwV 1 hts (gV (y := yX13_back) _ 570 571 572 149 138 rfl rfl rfl rfl rfl) rfl rfl rfl (by decide +kernel) ⟨Nat.le_of_ble_eq_true rfl, Nat.le_of_ble_eq_true rfl⟩) ⟨fun a U g mk q => by obtain ⟨q0, q1, qJ, qP, qK, qD⟩ := q; exact ⟨q0, q1, qJ, qP, va_K.moved (u := U) (U := U.calling g mk a) (Vm.Alike.refl U.vm) qK, qD⟩, va_recv hKc hPc (ci := 13) (q0 := 0) rfl rfl, fun U hU hW => ⟨rfl, by rw [hU], kJ_sub hMJ (by simp [mL]), by rw [hU]; exact hPc, va_K.moved hW.alike hKc, hDc.weaken (fun _ _ _ _ => trivial)⟩⟩ rfl rfl hl.1 rfl (lv_room (Nat.le_of_ble_eq_true rfl)) dL_law_194 ⟨Nat.le_of_ble_eq_true rfl, Nat.le_of_ble_eq_true rfl⟩) hS (fun q _ h => hFc q h) hFc (fun r u t H1 locs ht hvm hw hB hz1 hk1 hS => ?_)
      subst hw
      obtain ⟨hP, hD⟩ := va_join (wr := [(t_tape, .inl (ct_tape, 6000, .inl (fun _ => 0))), (t_kind, .inl (ct_kind, 6010, .inl (fun _ => 0))), (t_value, .inl (ct_value, 6010, .inl (fun _ => 0))), (t_line, .inl (ct_line, 6010, .inl (fun _ => 0))), (t_blanks, .inl (ct_blanks, 6010, .inl (fun _ => 0))), (t_letters, .inl (ct_letters, 6400, .inl (fun _ => 0))), (t_nameFrom, .inl (ct_nameFrom, 3150, .inl (fun _ => 0))), (t_nameNext, .inl (ct_nameNext, 3150, .inl (fun _ => 0))), (t_bucket, .inl (ct_bucket, 512, .inl (fun _ => 0))), (qr, .inr (8, fr)), (qm, .inr (3, fm)), (qh, .inr (12, fsH)), (q2, .inl (c2, 6000, .inl (fun _ => 0))), (q7, .inl (c7, 12002, .inl (fun _ => 0))), (q8, .inl (c8, 12002, .inl (fun _ => 0))), (q9, .inl (c9, 12002, .inl (fun _ => 0))), (q10, .inl (c10, 12002, .inl (fun _ => 0)))]) (w1 := []) hP hD [11] [0, 1, 2, 3, 4, 5, 6, 7, 8, 9, 10, 12, 13, 14, 15, 16, 17] rfl rfl (by decide) (by decide) hk1 hFc (va_P_nil (H := H1)) va_D_nil
      have hK := hK.sub (tys' := [(ct_tape, .byte), (ct_kind, .int), (ct_value, .int), (ct_line, .int), (ct_blanks, .int), (ct_letters, .byte), (ct_nameFrom, .int), (ct_nameNext, .int), (ct_bucket, .int), (c2, .int), (c7, .int), (c8, .int), (c9, .int), (c10, .int)]) [0, 1, 2, 3, 4, 5, 6, 7, 8, 9, 10, 11, 12, 13] rfl
      clear hPc hDc hKc hFc hk1 hz1 ht hB
      generalize H1 = H at hP hS ⊢
      have hP : va_P (dC, dI) vwCl [(t_tape, .inl (ct_tape, 6000, .inl (fun _ => 0))), (t_kind, .inl (ct_kind, 6010, .inl (fun _ => 0))), (t_value, .inl (ct_value, 6010, .inl (fun _ => 0))), (t_line, .inl (ct_line, 6010, .inl (fun _ => 0))), (t_blanks, .inl (ct_blanks, 6010, .inl (fun _ => 0))), (t_letters, .inl (ct_letters, 6400, .inl (fun _ => 0))), (t_nameFrom, .inl (ct_nameFrom, 3150, .inl (fun _ => 0))), (t_nameNext, .inl (ct_nameNext, 3150, .inl (fun _ => 0))), (t_bucket, .inl (ct_bucket, 512, .inl (fun _ => 0))), (qr, .inr (8, fr)), (qm, .inr (3, fm)), (qh, .inr (12, fsH)), (q2, .inl (c2, 6000, .inl (fun _ => 0))), (q7, .inl (c7, 12002, .inl (fun _ => 0))), (q8, .inl (c8, 12002, .inl (fun _ => 0))), (q9, .inl (c9, 12002, .inl (fun _ => 0))), (q10, .inl (c10, 12002, .inl (fun _ => 0)))] H := hP
      have hD : va_D (fun q : Nat => s.heap.size ≤ q) [(t_tape, .inl (ct_tape, 6000, .inl (fun _ => 0))), (t_kind, .inl (ct_kind, 6010, .inl (fun _ => 0))), (t_value, .inl (ct_value, 6010, .inl (fun _ => 0))), (t_line, .inl (ct_line, 6010, .inl (fun _ => 0))), (t_blanks, .inl (ct_blanks, 6010, .inl (fun _ => 0))), (t_letters, .inl (ct_letters, 6400, .inl (fun _ => 0))), (t_nameFrom, .inl (ct_nameFrom, 3150, .inl (fun _ => 0))), (t_nameNext, .inl (ct_nameNext, 3150, .inl (fun _ => 0))), (t_bucket, .inl (ct_bucket, 512, .inl (fun _ => 0))), (qr, .inr (8, fr)), (qm, .inr (3, fm)), (qh, .inr (12, fsH)), (q2, .inl (c2, 6000, .inl (fun _ => 0))), (q7, .inl (c7, 12002, .inl (fun _ => 0))), (q8, .inl (c8, 12002, .inl (fun _ => 0))), (q9, .inl (c9, 12002, .inl (fun _ => 0))), (q10, .inl (c10, 12002, .inl (fun _ => 0)))] := hD
      refine lv_icmp_eq (tgt := 494) hx hb dL_law_197 (by decide) (fun _ => ?_) (fun h => absurd rfl h)
      refine lv_iinc (v := 6) (lv' := [(4, .int 6), (3, .ref qo), (2, .ref o2), (1, .ref o1), (0, .ref b)]) hx hb dL_law_494 hl (k := 0) rfl (by decide) (by decide) rfl (fun ls hl => ?_)
      refine lv_goto (tgt := 23) hx hb dL_law_497 (by decide) ?_
      refine lv_iload hx hb dL_law_23 (lv_at hl 0 rfl) ?_
      refine lv_aload_n hx hb dL_law_25 rfl (lv_at hl 4 rfl) ?_
      refine va_slen hx hb hX hbl hbA hS dL_law_26 ?_
      refine lv_bipush (v := 6) hx hb dL_law_27 (by decide) ?_
      refine lv_isub hx hb dL_law_29 ?_
      refine lv_icmp_gt (tgt := 500) hx hb dL_law_30 (by decide) (fun _ => ?_) (fun h => absurd (by decide) h)
      refine lv_iconst (v := 1) hx hb dL_law_500 (by decide) ?_
      refine va_forget hS.2.2 ?_
      refine W.widen (k := 600002) (n := 7302232) (Nat.le_of_ble_eq_true rfl) (Nat.le_of_ble_eq_true rfl) ?_
      exact lw_ret hx hb hr hlocks dL_law_501
    · refine lv_tableIn (tgt := 202) hx hb dL_law_40 (by decide) (by decide) rfl (by decide) ?_
      refine lv_aload_n hx hb dL_law_202 rfl (lv_at hl 3 rfl) ?_
      have hPc := hP.sub (ws' := [(o1, .inr (11, fx)), (qt, .inr (7, ft)), (t_letters, .inl (ct_letters, 6400, .inl (fun _ => 0))), (t_nameFrom, .inl (ct_nameFrom, 3150, .inl (fun _ => 0))), (t_nameNext, .inl (ct_nameNext, 3150, .inl (fun _ => 0))), (t_bucket, .inl (ct_bucket, 512, .inl (fun _ => 0))), (t_kind, .inl (ct_kind, 6010, .inl (fun _ => 0))), (t_value, .inl (ct_value, 6010, .inl (fun _ => 0))), (t_line, .inl (ct_line, 6010, .inl (fun _ => 0))), (t_blanks, .inl (ct_blanks, 6010, .inl (fun _ => 0))), (qr, .inr (8, fr)), (qm, .inr (3, fm))]) [0, 1, 7, 8, 9, 10, 3, 4, 5, 6, 11, 12] rfl
      have hDc := hD.sub (ws' := [(o1, .inr (11, fx)), (qt, .inr (7, ft)), (t_letters, .inl (ct_letters, 6400, .inl (fun _ => 0))), (t_nameFrom, .inl (ct_nameFrom, 3150, .inl (fun _ => 0))), (t_nameNext, .inl (ct_nameNext, 3150, .inl (fun _ => 0))), (t_bucket, .inl (ct_bucket, 512, .inl (fun _ => 0))), (t_kind, .inl (ct_kind, 6010, .inl (fun _ => 0))), (t_value, .inl (ct_value, 6010, .inl (fun _ => 0))), (t_line, .inl (ct_line, 6010, .inl (fun _ => 0))), (t_blanks, .inl (ct_blanks, 6010, .inl (fun _ => 0))), (qr, .inr (8, fr)), (qm, .inr (3, fm))]) [0, 1, 7, 8, 9, 10, 3, 4, 5, 6, 11, 12] (by decide) rfl
      have hKc := hK.sub (tys' := [(ct_letters, .byte), (ct_nameFrom, .int), (ct_nameNext, .int), (ct_bucket, .int), (ct_kind, .int), (ct_value, .int), (ct_line, .int), (ct_blanks, .int)]) [5, 6, 7, 8, 1, 2, 3, 4] rfl
      have hFc := va_free (wc := [(o1, .inr (11, fx)), (qt, .inr (7, ft)), (t_letters, .inl (ct_letters, 6400, .inl (fun _ => 0))), (t_nameFrom, .inl (ct_nameFrom, 3150, .inl (fun _ => 0))), (t_nameNext, .inl (ct_nameNext, 3150, .inl (fun _ => 0))), (t_bucket, .inl (ct_bucket, 512, .inl (fun _ => 0))), (t_kind, .inl (ct_kind, 6010, .inl (fun _ => 0))), (t_value, .inl (ct_value, 6010, .inl (fun _ => 0))), (t_line, .inl (ct_line, 6010, .inl (fun _ => 0))), (t_blanks, .inl (ct_blanks, 6010, .inl (fun _ => 0))), (qr, .inr (8, fr)), (qm, .inr (3, fm))]) hD hS hA [0, 1, 7, 8, 9, 10, 3, 4, 5, 6, 11, 12] rfl
      refine va_calli (va_runV (As := []) (rest := []) ⟨hx, hb, hml, hown, hts⟩ (c_MeetingHouse_read l dC dI o1 H.size fx ft fr fm qt qr qm t_letters t_nameFrom t_nameNext t_bucket t_kind t_value t_line t_blanks ct_letters ct_nameFrom ct_nameNext ct_bucket ct_kind ct_value ct_line ct_blanks (fun _ => 0) (fun _ => 0) (fun _ => 0) (fun _ => 0) (fun _ => 0) (fun _ => 0) (fun _ => 0) (fun _ => 0) s1 v1 65 s2 v2 73 s3 v3 64 (fun j => tB1.getD j 0) (fun j => tB2.getD j 0) (fun j => tB3.getD j 0)) (cwV 0 hts (gV (y := yX11_read) _ 573 574 575 440 544 rfl rfl rfl rfl rfl) rfl rfl rfl (by decide +kernel) ⟨Nat.le_of_ble_eq_true rfl, Nat.le_of_ble_eq_true rfl⟩) ⟨fun a U g mk q => by obtain ⟨q0, q1, qJ, qT, qR, qM, a1, a2, a3, b1, b2, b3, qP, qK, qD, q2, q3, q4, qE⟩ := q; exact ⟨q0, q1, qJ, qT, qR, qM, a1, a2, a3, vk_R.same (u := U) (U := U.calling g mk a) rfl b1, vk_R.same (u := U) (U := U.calling g mk a) rfl b2, vk_R.same (u := U) (U := U.calling g mk a) rfl b3, qP, va_K.moved (u := U) (U := U.calling g mk a) (Vm.Alike.refl U.vm) qK, qD, kS.moved (u := U) (U := U.calling g mk a) (Vm.Alike.refl U.vm) q2, kS.moved (u := U) (U := U.calling g mk a) (Vm.Alike.refl U.vm) q3, kS.moved (u := U) (U := U.calling g mk a) (Vm.Alike.refl U.vm) q4, kE.moved (u := U) (U := U.calling g mk a) (Vm.Alike.refl U.vm) qE⟩, va_recv hKc hPc (ci := 11) (q0 := 0) rfl rfl, fun U hU hW => ⟨rfl, by rw [hU], kJ_sub hJ (by simp), kJ_sub hT (by simp), kJ_sub hR (by simp), kJ_sub hM (by simp), by decide, by decide, by decide, vk_R.warm hW hR1, vk_R.warm hW hR2, vk_R.warm hW hR3, by rw [hU]; exact hPc, va_K.moved hW.alike hKc, hDc.weaken (fun _ _ _ _ => trivial), by rw [hU]; exact kS.moved hW.alike ((hQ1.kept hS.2.1).narrow hFc), by rw [hU]; exact kS.moved hW.alike ((hQ2.kept hS.2.1).narrow hFc), by rw [hU]; exact kS.moved hW.alike ((hQ3.kept hS.2.1).narrow hFc), by rw [hU]; exact kE.moved hW.alike ((hF.2.2.1.kept hS.2.1).narrow hFc)⟩⟩ rfl rfl hl.1 rfl (lv_room (Nat.le_of_ble_eq_true rfl)) dL_law_203 ⟨Nat.le_of_ble_eq_true rfl, Nat.le_of_ble_eq_true rfl⟩) hS (fun q _ h => hFc q h) hFc (fun r u t H1 locs ht hvm hw hB hz1 hk1 hS => ?_)
      subst hw
      obtain ⟨hP, hD⟩ := va_join (wr := [(t_tape, .inl (ct_tape, 6000, .inl (fun _ => 0))), (o2, .inr (13, fs)), (qh, .inr (12, fsH)), (q2, .inl (c2, 6000, .inl (fun _ => 0))), (q7, .inl (c7, 12002, .inl (fun _ => 0))), (q8, .inl (c8, 12002, .inl (fun _ => 0))), (q9, .inl (c9, 12002, .inl (fun _ => 0))), (q10, .inl (c10, 12002, .inl (fun _ => 0)))]) (w1 := []) hP hD [0, 1, 7, 8, 9, 10, 3, 4, 5, 6, 11, 12] [2, 13, 14, 15, 16, 17, 18, 19] rfl rfl (by decide) (by decide) hk1 hFc (va_P_nil (H := H1)) va_D_nil
      have hK := hK.sub (tys' := [(ct_tape, .byte), (c2, .int), (c7, .int), (c8, .int), (c9, .int), (c10, .int)]) [0, 9, 10, 11, 12, 13] rfl
      clear hPc hDc hKc hFc hk1 hz1 ht hB
      generalize H1 = H at hP hS ⊢
      have hP : va_P (dC, dI) vwCl [(t_tape, .inl (ct_tape, 6000, .inl (fun _ => 0))), (o2, .inr (13, fs)), (qh, .inr (12, fsH)), (q2, .inl (c2, 6000, .inl (fun _ => 0))), (q7, .inl (c7, 12002, .inl (fun _ => 0))), (q8, .inl (c8, 12002, .inl (fun _ => 0))), (q9, .inl (c9, 12002, .inl (fun _ => 0))), (q10, .inl (c10, 12002, .inl (fun _ => 0)))] H := hP
      have hD : va_D (fun q : Nat => s.heap.size ≤ q) [(t_tape, .inl (ct_tape, 6000, .inl (fun _ => 0))), (o2, .inr (13, fs)), (qh, .inr (12, fsH)), (q2, .inl (c2, 6000, .inl (fun _ => 0))), (q7, .inl (c7, 12002, .inl (fun _ => 0))), (q8, .inl (c8, 12002, .inl (fun _ => 0))), (q9, .inl (c9, 12002, .inl (fun _ => 0))), (q10, .inl (c10, 12002, .inl (fun _ => 0)))] := hD
      refine lv_aload_n hx hb dL_law_206 rfl (lv_at hl 2 rfl) ?_
      have hPc := hP.sub (ws' := [(o2, .inr (13, fs)), (qh, .inr (12, fsH)), (q7, .inl (c7, 12002, .inl (fun _ => 0))), (q8, .inl (c8, 12002, .inl (fun _ => 0))), (q9, .inl (c9, 12002, .inl (fun _ => 0))), (q10, .inl (c10, 12002, .inl (fun _ => 0)))]) [1, 2, 4, 5, 6, 7] rfl
      have hDc := hD.sub (ws' := [(o2, .inr (13, fs)), (qh, .inr (12, fsH)), (q7, .inl (c7, 12002, .inl (fun _ => 0))), (q8, .inl (c8, 12002, .inl (fun _ => 0))), (q9, .inl (c9, 12002, .inl (fun _ => 0))), (q10, .inl (c10, 12002, .inl (fun _ => 0)))]) [1, 2, 4, 5, 6, 7] (by decide) rfl
      have hKc := hK.sub (tys' := [(c7, .int), (c8, .int), (c9, .int), (c10, .int)]) [2, 3, 4, 5] rfl
      have hFc := va_free (wc := [(o2, .inr (13, fs)), (qh, .inr (12, fsH)), (q7, .inl (c7, 12002, .inl (fun _ => 0))), (q8, .inl (c8, 12002, .inl (fun _ => 0))), (q9, .inl (c9, 12002, .inl (fun _ => 0))), (q10, .inl (c10, 12002, .inl (fun _ => 0)))]) hD hS hA [1, 2, 4, 5, 6, 7] rfl
      refine va_calli (va_runV (As := []) (rest := [.int 18]) ⟨hx, hb, hml, hown, hts⟩ (c_M_read l dC dI o2 H.size fs fsH qh q7 q8 q9 q10 c7 c8 c9 c10 (fun _ => 0) (fun _ => 0) (fun _ => 0) (fun _ => 0)) (cwV 0 hts (gV (y := yX13_read) _ 576 577 578 149 199 rfl rfl rfl rfl rfl) rfl rfl rfl (by decide +kernel) ⟨Nat.le_of_ble_eq_true rfl, Nat.le_of_ble_eq_true rfl⟩) ⟨fun a U g mk q => by obtain ⟨q0, q1, qJ, qC, qP, qK, qD⟩ := q; exact ⟨q0, q1, qJ, va_Nw.same (u := U) (U := U.calling g mk a) rfl rfl qC, qP, va_K.moved (u := U) (U := U.calling g mk a) (Vm.Alike.refl U.vm) qK, qD⟩, va_recv hKc hPc (ci := 13) (q0 := 0) rfl rfl, fun U hU hW => ⟨rfl, by rw [hU], kJ_sub hMJ (by simp [mL]), k_cw hW hF.2.2.2.2.1, by rw [hU]; exact hPc, va_K.moved hW.alike hKc, hDc.weaken (fun _ _ _ _ => trivial)⟩⟩ rfl rfl hl.1 rfl (lv_room (Nat.le_of_ble_eq_true rfl)) dL_law_207 ⟨Nat.le_of_ble_eq_true rfl, Nat.le_of_ble_eq_true rfl⟩) hS (fun q _ h => hFc q h) hFc (fun r u t H1 locs ht hvm hw hB hz1 hk1 hS => ?_)
      subst hw
      obtain ⟨hP, hD⟩ := va_join (wr := [(t_tape, .inl (ct_tape, 6000, .inl (fun _ => 0))), (q2, .inl (c2, 6000, .inl (fun _ => 0)))]) (w1 := []) hP hD [1, 2, 4, 5, 6, 7] [0, 3] rfl rfl (by decide) (by decide) hk1 hFc (va_P_nil (H := H1)) va_D_nil
      have hK := hK.sub (tys' := [(ct_tape, .byte), (c2, .int)]) [0, 1] rfl
      clear hPc hDc hKc hFc hk1 hz1 ht hB
      generalize H1 = H at hP hS ⊢
      have hP : va_P (dC, dI) vwCl [(t_tape, .inl (ct_tape, 6000, .inl (fun _ => 0))), (q2, .inl (c2, 6000, .inl (fun _ => 0)))] H := hP
      have hD : va_D (fun q : Nat => s.heap.size ≤ q) [(t_tape, .inl (ct_tape, 6000, .inl (fun _ => 0))), (q2, .inl (c2, 6000, .inl (fun _ => 0)))] := hD
      refine lv_icmp_eq (tgt := 494) hx hb dL_law_210 (by decide) (fun _ => ?_) (fun h => absurd rfl h)
      refine lv_iinc (v := 6) (lv' := [(4, .int 6), (3, .ref qo), (2, .ref o2), (1, .ref o1), (0, .ref b)]) hx hb dL_law_494 hl (k := 0) rfl (by decide) (by decide) rfl (fun ls hl => ?_)
      refine lv_goto (tgt := 23) hx hb dL_law_497 (by decide) ?_
      refine lv_iload hx hb dL_law_23 (lv_at hl 0 rfl) ?_
      refine lv_aload_n hx hb dL_law_25 rfl (lv_at hl 4 rfl) ?_
      refine va_slen hx hb hX hbl hbA hS dL_law_26 ?_
      refine lv_bipush (v := 6) hx hb dL_law_27 (by decide) ?_
      refine lv_isub hx hb dL_law_29 ?_
      refine lv_icmp_gt (tgt := 500) hx hb dL_law_30 (by decide) (fun _ => ?_) (fun h => absurd (by decide) h)
      refine lv_iconst (v := 1) hx hb dL_law_500 (by decide) ?_
      refine va_forget hS.2.2 ?_
      refine W.widen (k := 600002) (n := 7302232) (Nat.le_of_ble_eq_true rfl) (Nat.le_of_ble_eq_true rfl) ?_
      exact lw_ret hx hb hr hlocks dL_law_501
    · refine lv_tableIn (tgt := 215) hx hb dL_law_40 (by decide) (by decide) rfl (by decide) ?_
      refine lv_aload_n hx hb dL_law_215 rfl (lv_at hl 3 rfl) ?_
      refine lv_aload_n hx hb dL_law_216 rfl (lv_at hl 4 rfl) ?_
      refine lv_iload hx hb dL_law_217 (lv_at hl 0 rfl) ?_
      refine lv_iconst (v := 1) hx hb dL_law_219 (by decide) ?_
      refine lv_iadd hx hb dL_law_220 ?_
      refine k_i (v := 1) (by decide) ?_
      refine va_sld hx hb hX hbl hbA hS (by unfold vp_in; decide) dL_law_221 ?_
      refine k_i (v := xs 1) (congrArg xs (by decide)) ?_
      have hPc := hP.sub (ws' := [(o1, .inr (11, fx)), (qt, .inr (7, ft)), (qm, .inr (3, fm))]) [0, 1, 12] rfl
      have hDc := hD.sub (ws' := [(o1, .inr (11, fx)), (qt, .inr (7, ft)), (qm, .inr (3, fm))]) [0, 1, 12] (by decide) rfl
      have hKc := hK.sub (tys' := []) [] rfl
      have hFc := va_free (wc := [(o1, .inr (11, fx)), (qt, .inr (7, ft)), (qm, .inr (3, fm))]) hD hS hA [0, 1, 12] rfl
      refine va_calli (va_runV (As := [.int (xs 1)]) (rest := []) ⟨hx, hb, hml, hown, hts⟩ (c_MeetingHouse_count l dC dI o1 H.size fx ft fm qt qm (xs 1)) (cwV 1 hts (gV (y := yX11_count) _ 579 580 581 440 417 rfl rfl rfl rfl rfl) rfl rfl rfl (by decide +kernel) ⟨Nat.le_of_ble_eq_true rfl, Nat.le_of_ble_eq_true rfl⟩) ⟨fun a U g mk q => by obtain ⟨q0, q1, qJ, qT, qM, qP, qK, qD⟩ := q; exact ⟨q0, q1, qJ, qT, qM, qP, va_K.moved (u := U) (U := U.calling g mk a) (Vm.Alike.refl U.vm) qK, qD⟩, va_recv hKc hPc (ci := 11) (q0 := 0) rfl rfl, fun U hU hW => ⟨rfl, by rw [hU], kJ_sub hJ (by simp), kJ_sub hT (by simp), kJ_sub hM (by simp), by rw [hU]; exact hPc, va_K.moved hW.alike hKc, hDc.weaken (fun _ _ _ _ => trivial)⟩⟩ rfl rfl hl.1 rfl (lv_room (Nat.le_of_ble_eq_true rfl)) dL_law_222 ⟨Nat.le_of_ble_eq_true rfl, Nat.le_of_ble_eq_true rfl⟩) hS (fun q _ h => hFc q h) hFc (fun r u t H1 locs ht hvm hw hB hz1 hk1 hS => ?_)
      subst hw
      obtain ⟨hP, hD⟩ := va_join (wr := [(t_tape, .inl (ct_tape, 6000, .inl (fun _ => 0))), (t_kind, .inl (ct_kind, 6010, .inl (fun _ => 0))), (t_value, .inl (ct_value, 6010, .inl (fun _ => 0))), (t_line, .inl (ct_line, 6010, .inl (fun _ => 0))), (t_blanks, .inl (ct_blanks, 6010, .inl (fun _ => 0))), (t_letters, .inl (ct_letters, 6400, .inl (fun _ => 0))), (t_nameFrom, .inl (ct_nameFrom, 3150, .inl (fun _ => 0))), (t_nameNext, .inl (ct_nameNext, 3150, .inl (fun _ => 0))), (t_bucket, .inl (ct_bucket, 512, .inl (fun _ => 0))), (qr, .inr (8, fr)), (o2, .inr (13, fs)), (qh, .inr (12, fsH)), (q2, .inl (c2, 6000, .inl (fun _ => 0))), (q7, .inl (c7, 12002, .inl (fun _ => 0))), (q8, .inl (c8, 12002, .inl (fun _ => 0))), (q9, .inl (c9, 12002, .inl (fun _ => 0))), (q10, .inl (c10, 12002, .inl (fun _ => 0)))]) (w1 := []) hP hD [0, 1, 12] [2, 3, 4, 5, 6, 7, 8, 9, 10, 11, 13, 14, 15, 16, 17, 18, 19] rfl rfl (by decide) (by decide) hk1 hFc (va_P_nil (H := H1)) va_D_nil
      have hK := hK.sub (tys' := [(ct_tape, .byte), (ct_kind, .int), (ct_value, .int), (ct_line, .int), (ct_blanks, .int), (ct_letters, .byte), (ct_nameFrom, .int), (ct_nameNext, .int), (ct_bucket, .int), (c2, .int), (c7, .int), (c8, .int), (c9, .int), (c10, .int)]) [0, 1, 2, 3, 4, 5, 6, 7, 8, 9, 10, 11, 12, 13] rfl
      clear hPc hDc hKc hFc hk1 hz1 ht hB
      generalize H1 = H at hP hS ⊢
      have hP : va_P (dC, dI) vwCl [(t_tape, .inl (ct_tape, 6000, .inl (fun _ => 0))), (t_kind, .inl (ct_kind, 6010, .inl (fun _ => 0))), (t_value, .inl (ct_value, 6010, .inl (fun _ => 0))), (t_line, .inl (ct_line, 6010, .inl (fun _ => 0))), (t_blanks, .inl (ct_blanks, 6010, .inl (fun _ => 0))), (t_letters, .inl (ct_letters, 6400, .inl (fun _ => 0))), (t_nameFrom, .inl (ct_nameFrom, 3150, .inl (fun _ => 0))), (t_nameNext, .inl (ct_nameNext, 3150, .inl (fun _ => 0))), (t_bucket, .inl (ct_bucket, 512, .inl (fun _ => 0))), (qr, .inr (8, fr)), (o2, .inr (13, fs)), (qh, .inr (12, fsH)), (q2, .inl (c2, 6000, .inl (fun _ => 0))), (q7, .inl (c7, 12002, .inl (fun _ => 0))), (q8, .inl (c8, 12002, .inl (fun _ => 0))), (q9, .inl (c9, 12002, .inl (fun _ => 0))), (q10, .inl (c10, 12002, .inl (fun _ => 0)))] H := hP
      have hD : va_D (fun q : Nat => s.heap.size ≤ q) [(t_tape, .inl (ct_tape, 6000, .inl (fun _ => 0))), (t_kind, .inl (ct_kind, 6010, .inl (fun _ => 0))), (t_value, .inl (ct_value, 6010, .inl (fun _ => 0))), (t_line, .inl (ct_line, 6010, .inl (fun _ => 0))), (t_blanks, .inl (ct_blanks, 6010, .inl (fun _ => 0))), (t_letters, .inl (ct_letters, 6400, .inl (fun _ => 0))), (t_nameFrom, .inl (ct_nameFrom, 3150, .inl (fun _ => 0))), (t_nameNext, .inl (ct_nameNext, 3150, .inl (fun _ => 0))), (t_bucket, .inl (ct_bucket, 512, .inl (fun _ => 0))), (qr, .inr (8, fr)), (o2, .inr (13, fs)), (qh, .inr (12, fsH)), (q2, .inl (c2, 6000, .inl (fun _ => 0))), (q7, .inl (c7, 12002, .inl (fun _ => 0))), (q8, .inl (c8, 12002, .inl (fun _ => 0))), (q9, .inl (c9, 12002, .inl (fun _ => 0))), (q10, .inl (c10, 12002, .inl (fun _ => 0)))] := hD
      refine lv_aload_n hx hb dL_law_225 rfl (lv_at hl 2 rfl) ?_
      refine lv_aload_n hx hb dL_law_226 rfl (lv_at hl 4 rfl) ?_
      refine lv_iload hx hb dL_law_227 (lv_at hl 0 rfl) ?_
      refine lv_iconst (v := 1) hx hb dL_law_229 (by decide) ?_
      refine lv_iadd hx hb dL_law_230 ?_
      refine k_i (v := 1) (by decide) ?_
      refine va_sld hx hb hX hbl hbA hS (by unfold vp_in; decide) dL_law_231 ?_
      refine k_i (v := xs 1) (congrArg xs (by decide)) ?_
      have hPc := hP.sub (ws' := [(o2, .inr (13, fs))]) [10] rfl
      have hDc := hD.sub (ws' := [(o2, .inr (13, fs))]) [10] (by decide) rfl
      have hKc := hK.sub (tys' := []) [] rfl
      have hFc := va_free (wc := [(o2, .inr (13, fs))]) hD hS hA [10] rfl
      refine va_calli (va_runV (As := [.int (xs 1)]) (rest := [.int (cnt (xs 1))]) ⟨hx, hb, hml, hown, hts⟩ (c_M_count l dC dI o2 H.size fs (xs 1)) (cwV 1 hts (gV (y := yX13_count) _ 582 583 584 149 145 rfl rfl rfl rfl rfl) rfl rfl rfl (by decide +kernel) ⟨Nat.le_of_ble_eq_true rfl, Nat.le_of_ble_eq_true rfl⟩) ⟨fun a U g mk q => by obtain ⟨q0, q1, qJ, qP, qK, qD⟩ := q; exact ⟨q0, q1, qJ, qP, va_K.moved (u := U) (U := U.calling g mk a) (Vm.Alike.refl U.vm) qK, qD⟩, va_recv hKc hPc (ci := 13) (q0 := 0) rfl rfl, fun U hU hW => ⟨rfl, by rw [hU], kJ_sub hMJ (by simp [mL]), by rw [hU]; exact hPc, va_K.moved hW.alike hKc, hDc.weaken (fun _ _ _ _ => trivial)⟩⟩ rfl rfl hl.1 rfl (lv_room (Nat.le_of_ble_eq_true rfl)) dL_law_232 ⟨Nat.le_of_ble_eq_true rfl, Nat.le_of_ble_eq_true rfl⟩) hS (fun q _ h => hFc q h) hFc (fun r u t H1 locs ht hvm hw hB hz1 hk1 hS => ?_)
      subst hw
      obtain ⟨hP, hD⟩ := va_join (wr := [(t_tape, .inl (ct_tape, 6000, .inl (fun _ => 0))), (t_kind, .inl (ct_kind, 6010, .inl (fun _ => 0))), (t_value, .inl (ct_value, 6010, .inl (fun _ => 0))), (t_line, .inl (ct_line, 6010, .inl (fun _ => 0))), (t_blanks, .inl (ct_blanks, 6010, .inl (fun _ => 0))), (t_letters, .inl (ct_letters, 6400, .inl (fun _ => 0))), (t_nameFrom, .inl (ct_nameFrom, 3150, .inl (fun _ => 0))), (t_nameNext, .inl (ct_nameNext, 3150, .inl (fun _ => 0))), (t_bucket, .inl (ct_bucket, 512, .inl (fun _ => 0))), (qr, .inr (8, fr)), (qh, .inr (12, fsH)), (q2, .inl (c2, 6000, .inl (fun _ => 0))), (q7, .inl (c7, 12002, .inl (fun _ => 0))), (q8, .inl (c8, 12002, .inl (fun _ => 0))), (q9, .inl (c9, 12002, .inl (fun _ => 0))), (q10, .inl (c10, 12002, .inl (fun _ => 0)))]) (w1 := []) hP hD [10] [0, 1, 2, 3, 4, 5, 6, 7, 8, 9, 11, 12, 13, 14, 15, 16] rfl rfl (by decide) (by decide) hk1 hFc (va_P_nil (H := H1)) va_D_nil
      have hK := hK.sub (tys' := [(ct_tape, .byte), (ct_kind, .int), (ct_value, .int), (ct_line, .int), (ct_blanks, .int), (ct_letters, .byte), (ct_nameFrom, .int), (ct_nameNext, .int), (ct_bucket, .int), (c2, .int), (c7, .int), (c8, .int), (c9, .int), (c10, .int)]) [0, 1, 2, 3, 4, 5, 6, 7, 8, 9, 10, 11, 12, 13] rfl
      clear hPc hDc hKc hFc hk1 hz1 ht hB
      generalize H1 = H at hP hS ⊢
      have hP : va_P (dC, dI) vwCl [(t_tape, .inl (ct_tape, 6000, .inl (fun _ => 0))), (t_kind, .inl (ct_kind, 6010, .inl (fun _ => 0))), (t_value, .inl (ct_value, 6010, .inl (fun _ => 0))), (t_line, .inl (ct_line, 6010, .inl (fun _ => 0))), (t_blanks, .inl (ct_blanks, 6010, .inl (fun _ => 0))), (t_letters, .inl (ct_letters, 6400, .inl (fun _ => 0))), (t_nameFrom, .inl (ct_nameFrom, 3150, .inl (fun _ => 0))), (t_nameNext, .inl (ct_nameNext, 3150, .inl (fun _ => 0))), (t_bucket, .inl (ct_bucket, 512, .inl (fun _ => 0))), (qr, .inr (8, fr)), (qh, .inr (12, fsH)), (q2, .inl (c2, 6000, .inl (fun _ => 0))), (q7, .inl (c7, 12002, .inl (fun _ => 0))), (q8, .inl (c8, 12002, .inl (fun _ => 0))), (q9, .inl (c9, 12002, .inl (fun _ => 0))), (q10, .inl (c10, 12002, .inl (fun _ => 0)))] H := hP
      have hD : va_D (fun q : Nat => s.heap.size ≤ q) [(t_tape, .inl (ct_tape, 6000, .inl (fun _ => 0))), (t_kind, .inl (ct_kind, 6010, .inl (fun _ => 0))), (t_value, .inl (ct_value, 6010, .inl (fun _ => 0))), (t_line, .inl (ct_line, 6010, .inl (fun _ => 0))), (t_blanks, .inl (ct_blanks, 6010, .inl (fun _ => 0))), (t_letters, .inl (ct_letters, 6400, .inl (fun _ => 0))), (t_nameFrom, .inl (ct_nameFrom, 3150, .inl (fun _ => 0))), (t_nameNext, .inl (ct_nameNext, 3150, .inl (fun _ => 0))), (t_bucket, .inl (ct_bucket, 512, .inl (fun _ => 0))), (qr, .inr (8, fr)), (qh, .inr (12, fsH)), (q2, .inl (c2, 6000, .inl (fun _ => 0))), (q7, .inl (c7, 12002, .inl (fun _ => 0))), (q8, .inl (c8, 12002, .inl (fun _ => 0))), (q9, .inl (c9, 12002, .inl (fun _ => 0))), (q10, .inl (c10, 12002, .inl (fun _ => 0)))] := hD
      refine lv_icmp_eq (tgt := 494) hx hb dL_law_235 (by decide) (fun _ => ?_) (fun h => absurd rfl h)
      refine lv_iinc (v := 6) (lv' := [(4, .int 6), (3, .ref qo), (2, .ref o2), (1, .ref o1), (0, .ref b)]) hx hb dL_law_494 hl (k := 0) rfl (by decide) (by decide) rfl (fun ls hl => ?_)
      refine lv_goto (tgt := 23) hx hb dL_law_497 (by decide) ?_
      refine lv_iload hx hb dL_law_23 (lv_at hl 0 rfl) ?_
      refine lv_aload_n hx hb dL_law_25 rfl (lv_at hl 4 rfl) ?_
      refine va_slen hx hb hX hbl hbA hS dL_law_26 ?_
      refine lv_bipush (v := 6) hx hb dL_law_27 (by decide) ?_
      refine lv_isub hx hb dL_law_29 ?_
      refine lv_icmp_gt (tgt := 500) hx hb dL_law_30 (by decide) (fun _ => ?_) (fun h => absurd (by decide) h)
      refine lv_iconst (v := 1) hx hb dL_law_500 (by decide) ?_
      refine va_forget hS.2.2 ?_
      refine W.widen (k := 600002) (n := 7302232) (Nat.le_of_ble_eq_true rfl) (Nat.le_of_ble_eq_true rfl) ?_
      exact lw_ret hx hb hr hlocks dL_law_501
    · refine lv_tableIn (tgt := 240) hx hb dL_law_40 (by decide) (by decide) rfl (by decide) ?_
      refine lv_aload_n hx hb dL_law_240 rfl (lv_at hl 3 rfl) ?_
      refine lv_aload_n hx hb dL_law_241 rfl (lv_at hl 4 rfl) ?_
      refine lv_iload hx hb dL_law_242 (lv_at hl 0 rfl) ?_
      refine lv_iconst (v := 1) hx hb dL_law_244 (by decide) ?_
      refine lv_iadd hx hb dL_law_245 ?_
      refine k_i (v := 1) (by decide) ?_
      refine va_sld hx hb hX hbl hbA hS (by unfold vp_in; decide) dL_law_246 ?_
      refine k_i (v := xs 1) (congrArg xs (by decide)) ?_
      have hPc := hP.sub (ws' := [(o1, .inr (11, fx))]) [0] rfl
      have hDc := hD.sub (ws' := [(o1, .inr (11, fx))]) [0] (by decide) rfl
      have hKc := hK.sub (tys' := []) [] rfl
      have hFc := va_free (wc := [(o1, .inr (11, fx))]) hD hS hA [0] rfl
      refine vx_calli (vx_runSX (hh := [(0, 5, 8, 13)]) (As := [.ref o1, .int (xs 1)]) (rest := []) ⟨hx, hb, hml, hown, hts⟩ (c_L_begin l hst dC dI H.size fx o1 sa (xs 1)) (vx_cwSW 2 hts (gS (y := yL_begin) _ 585 586 587 436 rfl rfl rfl rfl) rfl rfl rfl (by decide +kernel) ⟨Nat.le_of_ble_eq_true rfl, Nat.le_of_ble_eq_true rfl⟩) ⟨fun a U g mk q => by obtain ⟨q0, q1, qJ, qB, qs, qP, qK, qD, qZ⟩ := q; exact ⟨q0, q1, qJ, kA.same atB_ok (u := U) (U := U.calling g mk a) rfl qB, vk_R.same (u := U) (U := U.calling g mk a) rfl qs, qP, va_K.moved (u := U) (U := U.calling g mk a) (Vm.Alike.refl U.vm) qK, qD, zT.moved (u := U) (U := U.calling g mk a) (Vm.Alike.refl U.vm) qZ⟩, fun U hU hW => by have f := hF.moved (B := va_A [(o1, .inr (11, fx))] H.size) hW (by rw [hU]; exact hS.2.1) hFc; exact ⟨rfl, by rw [hU], kJ_sub hJ (by simp), f.2.2.2.2.2.1, vk_R.warm hW hsa, by rw [hU]; exact hPc, va_K.moved hW.alike hKc, hDc.weaken (fun _ _ _ _ => trivial), f.2.1⟩⟩ rfl rfl hl.1 rfl (lv_room (Nat.le_of_ble_eq_true rfl)) dL_law_247 ⟨Nat.le_of_ble_eq_true rfl, Nat.le_of_ble_eq_true rfl⟩) hS (fun q _ h => hFc q h) hFc (fun q _ h => hFc q h) (fun E ce q9_ u t H1 locs ht hvm hw hB hz1 hk1 hS hcell hcv hcl => hw.elim) (fun r u t H1 locs ht hvm hw hB hz1 hk1 hS => ?_)
      subst hw
      obtain ⟨hP, hD⟩ := va_join (wr := [(qt, .inr (7, ft)), (t_tape, .inl (ct_tape, 6000, .inl (fun _ => 0))), (t_kind, .inl (ct_kind, 6010, .inl (fun _ => 0))), (t_value, .inl (ct_value, 6010, .inl (fun _ => 0))), (t_line, .inl (ct_line, 6010, .inl (fun _ => 0))), (t_blanks, .inl (ct_blanks, 6010, .inl (fun _ => 0))), (t_letters, .inl (ct_letters, 6400, .inl (fun _ => 0))), (t_nameFrom, .inl (ct_nameFrom, 3150, .inl (fun _ => 0))), (t_nameNext, .inl (ct_nameNext, 3150, .inl (fun _ => 0))), (t_bucket, .inl (ct_bucket, 512, .inl (fun _ => 0))), (qr, .inr (8, fr)), (qm, .inr (3, fm)), (o2, .inr (13, fs)), (qh, .inr (12, fsH)), (q2, .inl (c2, 6000, .inl (fun _ => 0))), (q7, .inl (c7, 12002, .inl (fun _ => 0))), (q8, .inl (c8, 12002, .inl (fun _ => 0))), (q9, .inl (c9, 12002, .inl (fun _ => 0))), (q10, .inl (c10, 12002, .inl (fun _ => 0)))]) (w1 := []) hP hD [0] [1, 2, 3, 4, 5, 6, 7, 8, 9, 10, 11, 12, 13, 14, 15, 16, 17, 18, 19] rfl rfl (by decide) (by decide) hk1 hFc (va_P_nil (H := H1)) va_D_nil
      have hK := hK.sub (tys' := [(ct_tape, .byte), (ct_kind, .int), (ct_value, .int), (ct_line, .int), (ct_blanks, .int), (ct_letters, .byte), (ct_nameFrom, .int), (ct_nameNext, .int), (ct_bucket, .int), (c2, .int), (c7, .int), (c8, .int), (c9, .int), (c10, .int)]) [0, 1, 2, 3, 4, 5, 6, 7, 8, 9, 10, 11, 12, 13] rfl
      clear hPc hDc hKc hFc hk1 hz1 ht hB
      generalize H1 = H at hP hS ⊢
      have hP : va_P (dC, dI) vwCl [(qt, .inr (7, ft)), (t_tape, .inl (ct_tape, 6000, .inl (fun _ => 0))), (t_kind, .inl (ct_kind, 6010, .inl (fun _ => 0))), (t_value, .inl (ct_value, 6010, .inl (fun _ => 0))), (t_line, .inl (ct_line, 6010, .inl (fun _ => 0))), (t_blanks, .inl (ct_blanks, 6010, .inl (fun _ => 0))), (t_letters, .inl (ct_letters, 6400, .inl (fun _ => 0))), (t_nameFrom, .inl (ct_nameFrom, 3150, .inl (fun _ => 0))), (t_nameNext, .inl (ct_nameNext, 3150, .inl (fun _ => 0))), (t_bucket, .inl (ct_bucket, 512, .inl (fun _ => 0))), (qr, .inr (8, fr)), (qm, .inr (3, fm)), (o2, .inr (13, fs)), (qh, .inr (12, fsH)), (q2, .inl (c2, 6000, .inl (fun _ => 0))), (q7, .inl (c7, 12002, .inl (fun _ => 0))), (q8, .inl (c8, 12002, .inl (fun _ => 0))), (q9, .inl (c9, 12002, .inl (fun _ => 0))), (q10, .inl (c10, 12002, .inl (fun _ => 0)))] H := hP
      have hD : va_D (fun q : Nat => s.heap.size ≤ q) [(qt, .inr (7, ft)), (t_tape, .inl (ct_tape, 6000, .inl (fun _ => 0))), (t_kind, .inl (ct_kind, 6010, .inl (fun _ => 0))), (t_value, .inl (ct_value, 6010, .inl (fun _ => 0))), (t_line, .inl (ct_line, 6010, .inl (fun _ => 0))), (t_blanks, .inl (ct_blanks, 6010, .inl (fun _ => 0))), (t_letters, .inl (ct_letters, 6400, .inl (fun _ => 0))), (t_nameFrom, .inl (ct_nameFrom, 3150, .inl (fun _ => 0))), (t_nameNext, .inl (ct_nameNext, 3150, .inl (fun _ => 0))), (t_bucket, .inl (ct_bucket, 512, .inl (fun _ => 0))), (qr, .inr (8, fr)), (qm, .inr (3, fm)), (o2, .inr (13, fs)), (qh, .inr (12, fsH)), (q2, .inl (c2, 6000, .inl (fun _ => 0))), (q7, .inl (c7, 12002, .inl (fun _ => 0))), (q8, .inl (c8, 12002, .inl (fun _ => 0))), (q9, .inl (c9, 12002, .inl (fun _ => 0))), (q10, .inl (c10, 12002, .inl (fun _ => 0)))] := hD
      refine W.widen (k := 427) (n := 1267356) (Nat.le_of_ble_eq_true rfl) (Nat.le_of_ble_eq_true rfl) ?_
      refine lv_istore (lv' := [(5, .int 1), (4, .int 0), (3, .ref qo), (2, .ref o2), (1, .ref o1), (0, .ref b)]) hx hb dL_law_250 hl (by decide) rfl (fun ls hl => ?_)
      refine lv_aload_n hx hb dL_law_252 rfl (lv_at hl 3 rfl) ?_
      refine lv_aload_n hx hb dL_law_253 rfl (lv_at hl 5 rfl) ?_
      refine lv_iload hx hb dL_law_254 (lv_at hl 1 rfl) ?_
      refine lv_iconst (v := 1) hx hb dL_law_256 (by decide) ?_
      refine lv_iadd hx hb dL_law_257 ?_
      refine k_i (v := 1) (by decide) ?_
      refine va_sld hx hb hX hbl hbA hS (by unfold vp_in; decide) dL_law_258 ?_
      refine k_i (v := xs 1) (congrArg xs (by decide)) ?_
      have hPc := hP.sub (ws' := [(o2, .inr (13, fs))]) [12] rfl
      have hDc := hD.sub (ws' := [(o2, .inr (13, fs))]) [12] (by decide) rfl
      have hKc := hK.sub (tys' := []) [] rfl
      have hFc := va_free (wc := [(o2, .inr (13, fs))]) hD hS hA [12] rfl
      refine va_callv (va_runV (As := [.int (xs 1)]) (rest := []) ⟨hx, hb, hml, hown, hts⟩ (c_M_begin l dC dI o2 H.size fs (xs 1)) (cwV 1 hts (gV (y := yX13_begin) _ 588 589 590 149 140 rfl rfl rfl rfl rfl) rfl rfl rfl (by decide +kernel) ⟨Nat.le_of_ble_eq_true rfl, Nat.le_of_ble_eq_true rfl⟩) ⟨fun a U g mk q => by obtain ⟨q0, q1, qJ, qP, qK, qD⟩ := q; exact ⟨q0, q1, qJ, qP, va_K.moved (u := U) (U := U.calling g mk a) (Vm.Alike.refl U.vm) qK, qD⟩, va_recv hKc hPc (ci := 13) (q0 := 0) rfl rfl, fun U hU hW => ⟨rfl, by rw [hU], kJ_sub hMJ (by simp [mL]), by rw [hU]; exact hPc, va_K.moved hW.alike hKc, hDc.weaken (fun _ _ _ _ => trivial)⟩⟩ rfl rfl hl.1 rfl (lv_room (Nat.le_of_ble_eq_true rfl)) dL_law_259 ⟨Nat.le_of_ble_eq_true rfl, Nat.le_of_ble_eq_true rfl⟩) hS (fun q _ h => hFc q h) hFc (fun u t H1 locs ht hvm hw hB hz1 hk1 hS => ?_)
      have hMJ : kJ 180 [(1, .int 1)] u := hw
      obtain ⟨hP1, hK1, hD1⟩ := hB
      rw [ht] at hP1
      have hK1 := va_K.moved hvm.symm hK1
      obtain ⟨hP, hD⟩ := va_join (wr := [(qt, .inr (7, ft)), (t_tape, .inl (ct_tape, 6000, .inl (fun _ => 0))), (t_kind, .inl (ct_kind, 6010, .inl (fun _ => 0))), (t_value, .inl (ct_value, 6010, .inl (fun _ => 0))), (t_line, .inl (ct_line, 6010, .inl (fun _ => 0))), (t_blanks, .inl (ct_blanks, 6010, .inl (fun _ => 0))), (t_letters, .inl (ct_letters, 6400, .inl (fun _ => 0))), (t_nameFrom, .inl (ct_nameFrom, 3150, .inl (fun _ => 0))), (t_nameNext, .inl (ct_nameNext, 3150, .inl (fun _ => 0))), (t_bucket, .inl (ct_bucket, 512, .inl (fun _ => 0))), (qr, .inr (8, fr)), (qm, .inr (3, fm)), (qh, .inr (12, fsH)), (q2, .inl (c2, 6000, .inl (fun _ => 0))), (q7, .inl (c7, 12002, .inl (fun _ => 0))), (q8, .inl (c8, 12002, .inl (fun _ => 0))), (q9, .inl (c9, 12002, .inl (fun _ => 0))), (q10, .inl (c10, 12002, .inl (fun _ => 0)))]) (w1 := [(o2, .inr (13, u))]) hP hD [12] [0, 1, 2, 3, 4, 5, 6, 7, 8, 9, 10, 11, 13, 14, 15, 16, 17, 18] rfl rfl (by decide) (by decide) hk1 hFc hP1 hD1
      have hK := (hK.sub (tys' := [(ct_tape, .byte), (ct_kind, .int), (ct_value, .int), (ct_line, .int), (ct_blanks, .int), (ct_letters, .byte), (ct_nameFrom, .int), (ct_nameNext, .int), (ct_bucket, .int), (c2, .int), (c7, .int), (c8, .int), (c9, .int), (c10, .int)]) [0, 1, 2, 3, 4, 5, 6, 7, 8, 9, 10, 11, 12, 13] rfl).app hK1
      clear hPc hDc hKc hFc hP1 hK1 hD1 hk1 hz1
      generalize H1 = H at hP hS ⊢
      have hP : va_P (dC, dI) vwCl [(qt, .inr (7, ft)), (t_tape, .inl (ct_tape, 6000, .inl (fun _ => 0))), (t_kind, .inl (ct_kind, 6010, .inl (fun _ => 0))), (t_value, .inl (ct_value, 6010, .inl (fun _ => 0))), (t_line, .inl (ct_line, 6010, .inl (fun _ => 0))), (t_blanks, .inl (ct_blanks, 6010, .inl (fun _ => 0))), (t_letters, .inl (ct_letters, 6400, .inl (fun _ => 0))), (t_nameFrom, .inl (ct_nameFrom, 3150, .inl (fun _ => 0))), (t_nameNext, .inl (ct_nameNext, 3150, .inl (fun _ => 0))), (t_bucket, .inl (ct_bucket, 512, .inl (fun _ => 0))), (qr, .inr (8, fr)), (qm, .inr (3, fm)), (qh, .inr (12, fsH)), (q2, .inl (c2, 6000, .inl (fun _ => 0))), (q7, .inl (c7, 12002, .inl (fun _ => 0))), (q8, .inl (c8, 12002, .inl (fun _ => 0))), (q9, .inl (c9, 12002, .inl (fun _ => 0))), (q10, .inl (c10, 12002, .inl (fun _ => 0))), (o2, .inr (13, u))] H := hP
      have hD : va_D (fun q : Nat => s.heap.size ≤ q) [(qt, .inr (7, ft)), (t_tape, .inl (ct_tape, 6000, .inl (fun _ => 0))), (t_kind, .inl (ct_kind, 6010, .inl (fun _ => 0))), (t_value, .inl (ct_value, 6010, .inl (fun _ => 0))), (t_line, .inl (ct_line, 6010, .inl (fun _ => 0))), (t_blanks, .inl (ct_blanks, 6010, .inl (fun _ => 0))), (t_letters, .inl (ct_letters, 6400, .inl (fun _ => 0))), (t_nameFrom, .inl (ct_nameFrom, 3150, .inl (fun _ => 0))), (t_nameNext, .inl (ct_nameNext, 3150, .inl (fun _ => 0))), (t_bucket, .inl (ct_bucket, 512, .inl (fun _ => 0))), (qr, .inr (8, fr)), (qm, .inr (3, fm)), (qh, .inr (12, fsH)), (q2, .inl (c2, 6000, .inl (fun _ => 0))), (q7, .inl (c7, 12002, .inl (fun _ => 0))), (q8, .inl (c8, 12002, .inl (fun _ => 0))), (q9, .inl (c9, 12002, .inl (fun _ => 0))), (q10, .inl (c10, 12002, .inl (fun _ => 0))), (o2, .inr (13, u))] := hD
      have hK : va_K (dC, dI) vwCl [(ct_tape, .byte), (ct_kind, .int), (ct_value, .int), (ct_line, .int), (ct_blanks, .int), (ct_letters, .byte), (ct_nameFrom, .int), (ct_nameNext, .int), (ct_bucket, .int), (c2, .int), (c7, .int), (c8, .int), (c9, .int), (c10, .int)] s := hK
      refine lv_aload_n hx hb dL_law_262 rfl (lv_at hl 3 rfl) ?_
      have hPc := hP.sub (ws' := [(o2, .inr (13, u))]) [18] rfl
      have hDc := hD.sub (ws' := [(o2, .inr (13, u))]) [18] (by decide) rfl
      have hKc := hK.sub (tys' := []) [] rfl
      have hFc := va_free (wc := [(o2, .inr (13, u))]) hD hS hA [18] rfl
      refine va_calli (va_runV (As := []) (rest := []) ⟨hx, hb, hml, hown, hts⟩ (c_M_thrown l dC dI o2 H.size u 1) (cwV 0 hts (gV (y := yX13_thrown) _ 591 592 593 149 143 rfl rfl rfl rfl rfl) rfl rfl rfl (by decide +kernel) ⟨Nat.le_of_ble_eq_true rfl, Nat.le_of_ble_eq_true rfl⟩) ⟨fun a U g mk q => by obtain ⟨q0, q1, qJ, qP, qK, qD⟩ := q; exact ⟨q0, q1, qJ, qP, va_K.moved (u := U) (U := U.calling g mk a) (Vm.Alike.refl U.vm) qK, qD⟩, va_recv hKc hPc (ci := 13) (q0 := 0) rfl rfl, fun U hU hW => ⟨rfl, by rw [hU], hMJ, by rw [hU]; exact hPc, va_K.moved hW.alike hKc, hDc.weaken (fun _ _ _ _ => trivial)⟩⟩ rfl rfl hl.1 rfl (lv_room (Nat.le_of_ble_eq_true rfl)) dL_law_263 ⟨Nat.le_of_ble_eq_true rfl, Nat.le_of_ble_eq_true rfl⟩) hS (fun q _ h => hFc q h) hFc (fun r u_ t H1 locs ht hvm hw hB hz1 hk1 hS => ?_)
      subst hw
      obtain ⟨hP, hD⟩ := va_join (wr := [(qt, .inr (7, ft)), (t_tape, .inl (ct_tape, 6000, .inl (fun _ => 0))), (t_kind, .inl (ct_kind, 6010, .inl (fun _ => 0))), (t_value, .inl (ct_value, 6010, .inl (fun _ => 0))), (t_line, .inl (ct_line, 6010, .inl (fun _ => 0))), (t_blanks, .inl (ct_blanks, 6010, .inl (fun _ => 0))), (t_letters, .inl (ct_letters, 6400, .inl (fun _ => 0))), (t_nameFrom, .inl (ct_nameFrom, 3150, .inl (fun _ => 0))), (t_nameNext, .inl (ct_nameNext, 3150, .inl (fun _ => 0))), (t_bucket, .inl (ct_bucket, 512, .inl (fun _ => 0))), (qr, .inr (8, fr)), (qm, .inr (3, fm)), (qh, .inr (12, fsH)), (q2, .inl (c2, 6000, .inl (fun _ => 0))), (q7, .inl (c7, 12002, .inl (fun _ => 0))), (q8, .inl (c8, 12002, .inl (fun _ => 0))), (q9, .inl (c9, 12002, .inl (fun _ => 0))), (q10, .inl (c10, 12002, .inl (fun _ => 0)))]) (w1 := []) hP hD [18] [0, 1, 2, 3, 4, 5, 6, 7, 8, 9, 10, 11, 12, 13, 14, 15, 16, 17] rfl rfl (by decide) (by decide) hk1 hFc (va_P_nil (H := H1)) va_D_nil
      have hK := hK.sub (tys' := [(ct_tape, .byte), (ct_kind, .int), (ct_value, .int), (ct_line, .int), (ct_blanks, .int), (ct_letters, .byte), (ct_nameFrom, .int), (ct_nameNext, .int), (ct_bucket, .int), (c2, .int), (c7, .int), (c8, .int), (c9, .int), (c10, .int)]) [0, 1, 2, 3, 4, 5, 6, 7, 8, 9, 10, 11, 12, 13] rfl
      clear hPc hDc hKc hFc hk1 hz1 ht hB
      generalize H1 = H at hP hS ⊢
      have hP : va_P (dC, dI) vwCl [(qt, .inr (7, ft)), (t_tape, .inl (ct_tape, 6000, .inl (fun _ => 0))), (t_kind, .inl (ct_kind, 6010, .inl (fun _ => 0))), (t_value, .inl (ct_value, 6010, .inl (fun _ => 0))), (t_line, .inl (ct_line, 6010, .inl (fun _ => 0))), (t_blanks, .inl (ct_blanks, 6010, .inl (fun _ => 0))), (t_letters, .inl (ct_letters, 6400, .inl (fun _ => 0))), (t_nameFrom, .inl (ct_nameFrom, 3150, .inl (fun _ => 0))), (t_nameNext, .inl (ct_nameNext, 3150, .inl (fun _ => 0))), (t_bucket, .inl (ct_bucket, 512, .inl (fun _ => 0))), (qr, .inr (8, fr)), (qm, .inr (3, fm)), (qh, .inr (12, fsH)), (q2, .inl (c2, 6000, .inl (fun _ => 0))), (q7, .inl (c7, 12002, .inl (fun _ => 0))), (q8, .inl (c8, 12002, .inl (fun _ => 0))), (q9, .inl (c9, 12002, .inl (fun _ => 0))), (q10, .inl (c10, 12002, .inl (fun _ => 0)))] H := hP
      have hD : va_D (fun q : Nat => s.heap.size ≤ q) [(qt, .inr (7, ft)), (t_tape, .inl (ct_tape, 6000, .inl (fun _ => 0))), (t_kind, .inl (ct_kind, 6010, .inl (fun _ => 0))), (t_value, .inl (ct_value, 6010, .inl (fun _ => 0))), (t_line, .inl (ct_line, 6010, .inl (fun _ => 0))), (t_blanks, .inl (ct_blanks, 6010, .inl (fun _ => 0))), (t_letters, .inl (ct_letters, 6400, .inl (fun _ => 0))), (t_nameFrom, .inl (ct_nameFrom, 3150, .inl (fun _ => 0))), (t_nameNext, .inl (ct_nameNext, 3150, .inl (fun _ => 0))), (t_bucket, .inl (ct_bucket, 512, .inl (fun _ => 0))), (qr, .inr (8, fr)), (qm, .inr (3, fm)), (qh, .inr (12, fsH)), (q2, .inl (c2, 6000, .inl (fun _ => 0))), (q7, .inl (c7, 12002, .inl (fun _ => 0))), (q8, .inl (c8, 12002, .inl (fun _ => 0))), (q9, .inl (c9, 12002, .inl (fun _ => 0))), (q10, .inl (c10, 12002, .inl (fun _ => 0)))] := hD
      refine lv_iload hx hb dL_law_266 (lv_at hl 0 rfl) ?_
      refine lv_icmp_eq (tgt := 273) hx hb dL_law_268 (by decide) (fun _ => ?_) (fun h => absurd rfl h)
      refine lv_goto (tgt := 494) hx hb dL_law_273 (by decide) ?_
      refine lv_iinc (v := 6) (lv' := [(4, .int 6), (5, .int 1), (3, .ref qo), (2, .ref o2), (1, .ref o1), (0, .ref b)]) hx hb dL_law_494 hl (k := 1) rfl (by decide) (by decide) rfl (fun ls hl => ?_)
      refine lv_goto (tgt := 23) hx hb dL_law_497 (by decide) ?_
      refine lv_iload hx hb dL_law_23 (lv_at hl 0 rfl) ?_
      refine lv_aload_n hx hb dL_law_25 rfl (lv_at hl 5 rfl) ?_
      refine va_slen hx hb hX hbl hbA hS dL_law_26 ?_
      refine lv_bipush (v := 6) hx hb dL_law_27 (by decide) ?_
      refine lv_isub hx hb dL_law_29 ?_
      refine lv_icmp_gt (tgt := 500) hx hb dL_law_30 (by decide) (fun _ => ?_) (fun h => absurd (by decide) h)
      refine lv_iconst (v := 1) hx hb dL_law_500 (by decide) ?_
      refine va_forget hS.2.2 ?_
      refine W.widen (k := 600002) (n := 7302232) (Nat.le_of_ble_eq_true rfl) (Nat.le_of_ble_eq_true rfl) ?_
      exact lw_ret hx hb hr hlocks dL_law_501
    · refine lv_tableIn (tgt := 276) hx hb dL_law_40 (by decide) (by decide) rfl (by decide) ?_
      refine lv_aload_n hx hb dL_law_276 rfl (lv_at hl 3 rfl) ?_
      refine lv_aload_n hx hb dL_law_277 rfl (lv_at hl 4 rfl) ?_
      refine lv_iload hx hb dL_law_278 (lv_at hl 0 rfl) ?_
      refine lv_iconst (v := 1) hx hb dL_law_280 (by decide) ?_
      refine lv_iadd hx hb dL_law_281 ?_
      refine k_i (v := 1) (by decide) ?_
      refine va_sld hx hb hX hbl hbA hS (by unfold vp_in; decide) dL_law_282 ?_
      refine k_i (v := xs 1) (congrArg xs (by decide)) ?_
      refine lv_aload_n hx hb dL_law_283 rfl (lv_at hl 1 rfl) ?_
      have hPc := hP.sub (ws' := [(o1, .inr (11, fx)), (qm, .inr (3, fm))]) [0, 12] rfl
      have hDc := hD.sub (ws' := [(o1, .inr (11, fx)), (qm, .inr (3, fm))]) [0, 12] (by decide) rfl
      have hKc := hK.sub (tys' := []) [] rfl
      have hFc := va_free (wc := [(o1, .inr (11, fx)), (qm, .inr (3, fm))]) hD hS hA [0, 12] rfl
      refine vx_calli (vx_runSX (hh := [(0, 9, 12, 19), (0, 9, 15, 13)]) (As := [.ref o1, .int (xs 1), .ref qo]) (rest := []) ⟨hx, hb, hml, hown, hts⟩ (c_L_run l hst dC dI H.size fx fm o1 qm qo sb sc (xs 1)) (vx_cwSW 3 hts (gS (y := yL_run) _ 594 595 587 443 rfl rfl rfl rfl) rfl rfl rfl (by decide +kernel) ⟨Nat.le_of_ble_eq_true rfl, Nat.le_of_ble_eq_true rfl⟩) ⟨fun a U g mk q => by obtain ⟨q0, q1, qJ, qM, qB, qA, qs, qt_, qn, qP, qK, qD, qZ⟩ := q; exact ⟨q0, q1, qJ, qM, kA.same atB_ok (u := U) (U := U.calling g mk a) rfl qB, kA.same atA_ok (u := U) (U := U.calling g mk a) rfl qA, vk_R.same (u := U) (U := U.calling g mk a) rfl qs, vk_R.same (u := U) (U := U.calling g mk a) rfl qt_, kN.moved (u := U) (U := U.calling g mk a) (Vm.Alike.refl U.vm) qn, qP, va_K.moved (u := U) (U := U.calling g mk a) (Vm.Alike.refl U.vm) qK, qD, zT.moved (u := U) (U := U.calling g mk a) (Vm.Alike.refl U.vm) qZ⟩, fun U hU hW => by have f := hF.moved (B := va_A [(o1, .inr (11, fx)), (qm, .inr (3, fm))] H.size) hW (by rw [hU]; exact hS.2.1) hFc; exact ⟨rfl, by rw [hU], kJ_sub hJ (by simp), kJ_sub hM (by simp), f.2.2.2.2.2.1, f.2.2.2.2.2.2.1, vk_R.warm hW hsb, vk_R.warm hW hsc, f.2.2.2.2.2.2.2, by rw [hU]; exact hPc, va_K.moved hW.alike hKc, hDc.weaken (fun _ _ _ _ => trivial), f.2.1⟩⟩ rfl rfl hl.1 rfl (lv_room (Nat.le_of_ble_eq_true rfl)) dL_law_284 ⟨Nat.le_of_ble_eq_true rfl, Nat.le_of_ble_eq_true rfl⟩) hS (fun q _ h => hFc q h) hFc (fun q _ h => hFc q h) (fun E ce q9_ u t H1 locs ht hvm hw hB hz1 hk1 hS hcell hcv hcl => hw.elim) (fun r u t H1 locs ht hvm hw hB hz1 hk1 hS => ?_)
      subst hw
      obtain ⟨hP, hD⟩ := va_join (wr := [(qt, .inr (7, ft)), (t_tape, .inl (ct_tape, 6000, .inl (fun _ => 0))), (t_kind, .inl (ct_kind, 6010, .inl (fun _ => 0))), (t_value, .inl (ct_value, 6010, .inl (fun _ => 0))), (t_line, .inl (ct_line, 6010, .inl (fun _ => 0))), (t_blanks, .inl (ct_blanks, 6010, .inl (fun _ => 0))), (t_letters, .inl (ct_letters, 6400, .inl (fun _ => 0))), (t_nameFrom, .inl (ct_nameFrom, 3150, .inl (fun _ => 0))), (t_nameNext, .inl (ct_nameNext, 3150, .inl (fun _ => 0))), (t_bucket, .inl (ct_bucket, 512, .inl (fun _ => 0))), (qr, .inr (8, fr)), (o2, .inr (13, fs)), (qh, .inr (12, fsH)), (q2, .inl (c2, 6000, .inl (fun _ => 0))), (q7, .inl (c7, 12002, .inl (fun _ => 0))), (q8, .inl (c8, 12002, .inl (fun _ => 0))), (q9, .inl (c9, 12002, .inl (fun _ => 0))), (q10, .inl (c10, 12002, .inl (fun _ => 0)))]) (w1 := []) hP hD [0, 12] [1, 2, 3, 4, 5, 6, 7, 8, 9, 10, 11, 13, 14, 15, 16, 17, 18, 19] rfl rfl (by decide) (by decide) hk1 hFc (va_P_nil (H := H1)) va_D_nil
      have hK := hK.sub (tys' := [(ct_tape, .byte), (ct_kind, .int), (ct_value, .int), (ct_line, .int), (ct_blanks, .int), (ct_letters, .byte), (ct_nameFrom, .int), (ct_nameNext, .int), (ct_bucket, .int), (c2, .int), (c7, .int), (c8, .int), (c9, .int), (c10, .int)]) [0, 1, 2, 3, 4, 5, 6, 7, 8, 9, 10, 11, 12, 13] rfl
      clear hPc hDc hKc hFc hk1 hz1 ht hB
      generalize H1 = H at hP hS ⊢
      have hP : va_P (dC, dI) vwCl [(qt, .inr (7, ft)), (t_tape, .inl (ct_tape, 6000, .inl (fun _ => 0))), (t_kind, .inl (ct_kind, 6010, .inl (fun _ => 0))), (t_value, .inl (ct_value, 6010, .inl (fun _ => 0))), (t_line, .inl (ct_line, 6010, .inl (fun _ => 0))), (t_blanks, .inl (ct_blanks, 6010, .inl (fun _ => 0))), (t_letters, .inl (ct_letters, 6400, .inl (fun _ => 0))), (t_nameFrom, .inl (ct_nameFrom, 3150, .inl (fun _ => 0))), (t_nameNext, .inl (ct_nameNext, 3150, .inl (fun _ => 0))), (t_bucket, .inl (ct_bucket, 512, .inl (fun _ => 0))), (qr, .inr (8, fr)), (o2, .inr (13, fs)), (qh, .inr (12, fsH)), (q2, .inl (c2, 6000, .inl (fun _ => 0))), (q7, .inl (c7, 12002, .inl (fun _ => 0))), (q8, .inl (c8, 12002, .inl (fun _ => 0))), (q9, .inl (c9, 12002, .inl (fun _ => 0))), (q10, .inl (c10, 12002, .inl (fun _ => 0)))] H := hP
      have hD : va_D (fun q : Nat => s.heap.size ≤ q) [(qt, .inr (7, ft)), (t_tape, .inl (ct_tape, 6000, .inl (fun _ => 0))), (t_kind, .inl (ct_kind, 6010, .inl (fun _ => 0))), (t_value, .inl (ct_value, 6010, .inl (fun _ => 0))), (t_line, .inl (ct_line, 6010, .inl (fun _ => 0))), (t_blanks, .inl (ct_blanks, 6010, .inl (fun _ => 0))), (t_letters, .inl (ct_letters, 6400, .inl (fun _ => 0))), (t_nameFrom, .inl (ct_nameFrom, 3150, .inl (fun _ => 0))), (t_nameNext, .inl (ct_nameNext, 3150, .inl (fun _ => 0))), (t_bucket, .inl (ct_bucket, 512, .inl (fun _ => 0))), (qr, .inr (8, fr)), (o2, .inr (13, fs)), (qh, .inr (12, fsH)), (q2, .inl (c2, 6000, .inl (fun _ => 0))), (q7, .inl (c7, 12002, .inl (fun _ => 0))), (q8, .inl (c8, 12002, .inl (fun _ => 0))), (q9, .inl (c9, 12002, .inl (fun _ => 0))), (q10, .inl (c10, 12002, .inl (fun _ => 0)))] := hD
      refine W.widen (k := 427) (n := 1267356) (Nat.le_of_ble_eq_true rfl) (Nat.le_of_ble_eq_true rfl) ?_
      refine lv_istore (lv' := [(5, .int (rc (xs 1))), (4, .int 0), (3, .ref qo), (2, .ref o2), (1, .ref o1), (0, .ref b)]) hx hb dL_law_287 hl (by decide) rfl (fun ls hl => ?_)
      refine lv_aload_n hx hb dL_law_289 rfl (lv_at hl 3 rfl) ?_
      refine lv_aload_n hx hb dL_law_290 rfl (lv_at hl 5 rfl) ?_
      refine lv_iload hx hb dL_law_291 (lv_at hl 1 rfl) ?_
      refine lv_iconst (v := 1) hx hb dL_law_293 (by decide) ?_
      refine lv_iadd hx hb dL_law_294 ?_
      refine k_i (v := 1) (by decide) ?_
      refine va_sld hx hb hX hbl hbA hS (by unfold vp_in; decide) dL_law_295 ?_
      refine k_i (v := xs 1) (congrArg xs (by decide)) ?_
      have hPc := hP.sub (ws' := [(o2, .inr (13, fs))]) [11] rfl
      have hDc := hD.sub (ws' := [(o2, .inr (13, fs))]) [11] (by decide) rfl
      have hKc := hK.sub (tys' := []) [] rfl
      have hFc := va_free (wc := [(o2, .inr (13, fs))]) hD hS hA [11] rfl
      refine va_calli (va_runV (As := [.int (xs 1)]) (rest := []) ⟨hx, hb, hml, hown, hts⟩ (c_M_run l dC dI o2 H.size fs (xs 1)) (cwV 1 hts (gV (y := yX13_run) _ 596 597 598 149 142 rfl rfl rfl rfl rfl) rfl rfl rfl (by decide +kernel) ⟨Nat.le_of_ble_eq_true rfl, Nat.le_of_ble_eq_true rfl⟩) ⟨fun a U g mk q => by obtain ⟨q0, q1, qJ, qP, qK, qD⟩ := q; exact ⟨q0, q1, qJ, qP, va_K.moved (u := U) (U := U.calling g mk a) (Vm.Alike.refl U.vm) qK, qD⟩, va_recv hKc hPc (ci := 13) (q0 := 0) rfl rfl, fun U hU hW => ⟨rfl, by rw [hU], kJ_sub hMJ (by simp [mL]), by rw [hU]; exact hPc, va_K.moved hW.alike hKc, hDc.weaken (fun _ _ _ _ => trivial)⟩⟩ rfl rfl hl.1 rfl (lv_room (Nat.le_of_ble_eq_true rfl)) dL_law_296 ⟨Nat.le_of_ble_eq_true rfl, Nat.le_of_ble_eq_true rfl⟩) hS (fun q _ h => hFc q h) hFc (fun rr u t H1 locs ht hvm hw hB hz1 hk1 hS => ?_)
      have hMJ : kJ 180 [(1, .int (rc (xs 1)))] u := hw
      obtain ⟨hP1, hK1, hD1⟩ := hB
      rw [ht] at hP1
      have hK1 := va_K.moved hvm.symm hK1
      obtain ⟨hP, hD⟩ := va_join (wr := [(qt, .inr (7, ft)), (t_tape, .inl (ct_tape, 6000, .inl (fun _ => 0))), (t_kind, .inl (ct_kind, 6010, .inl (fun _ => 0))), (t_value, .inl (ct_value, 6010, .inl (fun _ => 0))), (t_line, .inl (ct_line, 6010, .inl (fun _ => 0))), (t_blanks, .inl (ct_blanks, 6010, .inl (fun _ => 0))), (t_letters, .inl (ct_letters, 6400, .inl (fun _ => 0))), (t_nameFrom, .inl (ct_nameFrom, 3150, .inl (fun _ => 0))), (t_nameNext, .inl (ct_nameNext, 3150, .inl (fun _ => 0))), (t_bucket, .inl (ct_bucket, 512, .inl (fun _ => 0))), (qr, .inr (8, fr)), (qh, .inr (12, fsH)), (q2, .inl (c2, 6000, .inl (fun _ => 0))), (q7, .inl (c7, 12002, .inl (fun _ => 0))), (q8, .inl (c8, 12002, .inl (fun _ => 0))), (q9, .inl (c9, 12002, .inl (fun _ => 0))), (q10, .inl (c10, 12002, .inl (fun _ => 0)))]) (w1 := [(o2, .inr (13, u))]) hP hD [11] [0, 1, 2, 3, 4, 5, 6, 7, 8, 9, 10, 12, 13, 14, 15, 16, 17] rfl rfl (by decide) (by decide) hk1 hFc hP1 hD1
      have hK := (hK.sub (tys' := [(ct_tape, .byte), (ct_kind, .int), (ct_value, .int), (ct_line, .int), (ct_blanks, .int), (ct_letters, .byte), (ct_nameFrom, .int), (ct_nameNext, .int), (ct_bucket, .int), (c2, .int), (c7, .int), (c8, .int), (c9, .int), (c10, .int)]) [0, 1, 2, 3, 4, 5, 6, 7, 8, 9, 10, 11, 12, 13] rfl).app hK1
      clear hPc hDc hKc hFc hP1 hK1 hD1 hk1 hz1
      generalize H1 = H at hP hS ⊢
      have hP : va_P (dC, dI) vwCl [(qt, .inr (7, ft)), (t_tape, .inl (ct_tape, 6000, .inl (fun _ => 0))), (t_kind, .inl (ct_kind, 6010, .inl (fun _ => 0))), (t_value, .inl (ct_value, 6010, .inl (fun _ => 0))), (t_line, .inl (ct_line, 6010, .inl (fun _ => 0))), (t_blanks, .inl (ct_blanks, 6010, .inl (fun _ => 0))), (t_letters, .inl (ct_letters, 6400, .inl (fun _ => 0))), (t_nameFrom, .inl (ct_nameFrom, 3150, .inl (fun _ => 0))), (t_nameNext, .inl (ct_nameNext, 3150, .inl (fun _ => 0))), (t_bucket, .inl (ct_bucket, 512, .inl (fun _ => 0))), (qr, .inr (8, fr)), (qh, .inr (12, fsH)), (q2, .inl (c2, 6000, .inl (fun _ => 0))), (q7, .inl (c7, 12002, .inl (fun _ => 0))), (q8, .inl (c8, 12002, .inl (fun _ => 0))), (q9, .inl (c9, 12002, .inl (fun _ => 0))), (q10, .inl (c10, 12002, .inl (fun _ => 0))), (o2, .inr (13, u))] H := hP
      have hD : va_D (fun q : Nat => s.heap.size ≤ q) [(qt, .inr (7, ft)), (t_tape, .inl (ct_tape, 6000, .inl (fun _ => 0))), (t_kind, .inl (ct_kind, 6010, .inl (fun _ => 0))), (t_value, .inl (ct_value, 6010, .inl (fun _ => 0))), (t_line, .inl (ct_line, 6010, .inl (fun _ => 0))), (t_blanks, .inl (ct_blanks, 6010, .inl (fun _ => 0))), (t_letters, .inl (ct_letters, 6400, .inl (fun _ => 0))), (t_nameFrom, .inl (ct_nameFrom, 3150, .inl (fun _ => 0))), (t_nameNext, .inl (ct_nameNext, 3150, .inl (fun _ => 0))), (t_bucket, .inl (ct_bucket, 512, .inl (fun _ => 0))), (qr, .inr (8, fr)), (qh, .inr (12, fsH)), (q2, .inl (c2, 6000, .inl (fun _ => 0))), (q7, .inl (c7, 12002, .inl (fun _ => 0))), (q8, .inl (c8, 12002, .inl (fun _ => 0))), (q9, .inl (c9, 12002, .inl (fun _ => 0))), (q10, .inl (c10, 12002, .inl (fun _ => 0))), (o2, .inr (13, u))] := hD
      have hK : va_K (dC, dI) vwCl [(ct_tape, .byte), (ct_kind, .int), (ct_value, .int), (ct_line, .int), (ct_blanks, .int), (ct_letters, .byte), (ct_nameFrom, .int), (ct_nameNext, .int), (ct_bucket, .int), (c2, .int), (c7, .int), (c8, .int), (c9, .int), (c10, .int)] s := hK
      refine lv_istore (lv' := [(6, .int rr), (5, .int (rc (xs 1))), (4, .int 0), (3, .ref qo), (2, .ref o2), (1, .ref o1), (0, .ref b)]) hx hb dL_law_299 hl (by decide) rfl (fun ls hl => ?_)
      refine lv_aload_n hx hb dL_law_301 rfl (lv_at hl 4 rfl) ?_
      have hPc := hP.sub (ws' := [(o2, .inr (13, u))]) [17] rfl
      have hDc := hD.sub (ws' := [(o2, .inr (13, u))]) [17] (by decide) rfl
      have hKc := hK.sub (tys' := []) [] rfl
      have hFc := va_free (wc := [(o2, .inr (13, u))]) hD hS hA [17] rfl
      refine va_calli (va_runV (As := []) (rest := []) ⟨hx, hb, hml, hown, hts⟩ (c_M_thrown l dC dI o2 H.size u (rc (xs 1))) (cwV 0 hts (gV (y := yX13_thrown) _ 591 592 593 149 143 rfl rfl rfl rfl rfl) rfl rfl rfl (by decide +kernel) ⟨Nat.le_of_ble_eq_true rfl, Nat.le_of_ble_eq_true rfl⟩) ⟨fun a U g mk q => by obtain ⟨q0, q1, qJ, qP, qK, qD⟩ := q; exact ⟨q0, q1, qJ, qP, va_K.moved (u := U) (U := U.calling g mk a) (Vm.Alike.refl U.vm) qK, qD⟩, va_recv hKc hPc (ci := 13) (q0 := 0) rfl rfl, fun U hU hW => ⟨rfl, by rw [hU], hMJ, by rw [hU]; exact hPc, va_K.moved hW.alike hKc, hDc.weaken (fun _ _ _ _ => trivial)⟩⟩ rfl rfl hl.1 rfl (lv_room (Nat.le_of_ble_eq_true rfl)) dL_law_302 ⟨Nat.le_of_ble_eq_true rfl, Nat.le_of_ble_eq_true rfl⟩) hS (fun q _ h => hFc q h) hFc (fun r u_ t H1 locs ht hvm hw hB hz1 hk1 hS => ?_)
      subst hw
      obtain ⟨hP, hD⟩ := va_join (wr := [(qt, .inr (7, ft)), (t_tape, .inl (ct_tape, 6000, .inl (fun _ => 0))), (t_kind, .inl (ct_kind, 6010, .inl (fun _ => 0))), (t_value, .inl (ct_value, 6010, .inl (fun _ => 0))), (t_line, .inl (ct_line, 6010, .inl (fun _ => 0))), (t_blanks, .inl (ct_blanks, 6010, .inl (fun _ => 0))), (t_letters, .inl (ct_letters, 6400, .inl (fun _ => 0))), (t_nameFrom, .inl (ct_nameFrom, 3150, .inl (fun _ => 0))), (t_nameNext, .inl (ct_nameNext, 3150, .inl (fun _ => 0))), (t_bucket, .inl (ct_bucket, 512, .inl (fun _ => 0))), (qr, .inr (8, fr)), (qh, .inr (12, fsH)), (q2, .inl (c2, 6000, .inl (fun _ => 0))), (q7, .inl (c7, 12002, .inl (fun _ => 0))), (q8, .inl (c8, 12002, .inl (fun _ => 0))), (q9, .inl (c9, 12002, .inl (fun _ => 0))), (q10, .inl (c10, 12002, .inl (fun _ => 0)))]) (w1 := []) hP hD [17] [0, 1, 2, 3, 4, 5, 6, 7, 8, 9, 10, 11, 12, 13, 14, 15, 16] rfl rfl (by decide) (by decide) hk1 hFc (va_P_nil (H := H1)) va_D_nil
      have hK := hK.sub (tys' := [(ct_tape, .byte), (ct_kind, .int), (ct_value, .int), (ct_line, .int), (ct_blanks, .int), (ct_letters, .byte), (ct_nameFrom, .int), (ct_nameNext, .int), (ct_bucket, .int), (c2, .int), (c7, .int), (c8, .int), (c9, .int), (c10, .int)]) [0, 1, 2, 3, 4, 5, 6, 7, 8, 9, 10, 11, 12, 13] rfl
      clear hPc hDc hKc hFc hk1 hz1 ht hB
      generalize H1 = H at hP hS ⊢
      have hP : va_P (dC, dI) vwCl [(qt, .inr (7, ft)), (t_tape, .inl (ct_tape, 6000, .inl (fun _ => 0))), (t_kind, .inl (ct_kind, 6010, .inl (fun _ => 0))), (t_value, .inl (ct_value, 6010, .inl (fun _ => 0))), (t_line, .inl (ct_line, 6010, .inl (fun _ => 0))), (t_blanks, .inl (ct_blanks, 6010, .inl (fun _ => 0))), (t_letters, .inl (ct_letters, 6400, .inl (fun _ => 0))), (t_nameFrom, .inl (ct_nameFrom, 3150, .inl (fun _ => 0))), (t_nameNext, .inl (ct_nameNext, 3150, .inl (fun _ => 0))), (t_bucket, .inl (ct_bucket, 512, .inl (fun _ => 0))), (qr, .inr (8, fr)), (qh, .inr (12, fsH)), (q2, .inl (c2, 6000, .inl (fun _ => 0))), (q7, .inl (c7, 12002, .inl (fun _ => 0))), (q8, .inl (c8, 12002, .inl (fun _ => 0))), (q9, .inl (c9, 12002, .inl (fun _ => 0))), (q10, .inl (c10, 12002, .inl (fun _ => 0)))] H := hP
      have hD : va_D (fun q : Nat => s.heap.size ≤ q) [(qt, .inr (7, ft)), (t_tape, .inl (ct_tape, 6000, .inl (fun _ => 0))), (t_kind, .inl (ct_kind, 6010, .inl (fun _ => 0))), (t_value, .inl (ct_value, 6010, .inl (fun _ => 0))), (t_line, .inl (ct_line, 6010, .inl (fun _ => 0))), (t_blanks, .inl (ct_blanks, 6010, .inl (fun _ => 0))), (t_letters, .inl (ct_letters, 6400, .inl (fun _ => 0))), (t_nameFrom, .inl (ct_nameFrom, 3150, .inl (fun _ => 0))), (t_nameNext, .inl (ct_nameNext, 3150, .inl (fun _ => 0))), (t_bucket, .inl (ct_bucket, 512, .inl (fun _ => 0))), (qr, .inr (8, fr)), (qh, .inr (12, fsH)), (q2, .inl (c2, 6000, .inl (fun _ => 0))), (q7, .inl (c7, 12002, .inl (fun _ => 0))), (q8, .inl (c8, 12002, .inl (fun _ => 0))), (q9, .inl (c9, 12002, .inl (fun _ => 0))), (q10, .inl (c10, 12002, .inl (fun _ => 0)))] := hD
      refine lv_iload hx hb dL_law_305 (lv_at hl 1 rfl) ?_
      refine lv_icmp_eq (tgt := 312) hx hb dL_law_307 (by decide) (fun _ => ?_) (fun h => absurd rfl h)
      refine lv_iload hx hb dL_law_312 (lv_at hl 1 rfl) ?_
      refine lv_if_ne (tgt := 329) hx hb dL_law_314 (by decide) (fun _ => ?_) (fun h => absurd (k_rc0 _) (by simpa using h))
      refine lv_goto (tgt := 494) hx hb dL_law_329 (by decide) ?_
      refine lv_iinc (v := 6) (lv' := [(4, .int 6), (6, .int rr), (5, .int (rc (xs 1))), (3, .ref qo), (2, .ref o2), (1, .ref o1), (0, .ref b)]) hx hb dL_law_494 hl (k := 2) rfl (by decide) (by decide) rfl (fun ls hl => ?_)
      refine lv_goto (tgt := 23) hx hb dL_law_497 (by decide) ?_
      refine lv_iload hx hb dL_law_23 (lv_at hl 0 rfl) ?_
      refine lv_aload_n hx hb dL_law_25 rfl (lv_at hl 6 rfl) ?_
      refine va_slen hx hb hX hbl hbA hS dL_law_26 ?_
      refine lv_bipush (v := 6) hx hb dL_law_27 (by decide) ?_
      refine lv_isub hx hb dL_law_29 ?_
      refine lv_icmp_gt (tgt := 500) hx hb dL_law_30 (by decide) (fun _ => ?_) (fun h => absurd (by decide) h)
      refine lv_iconst (v := 1) hx hb dL_law_500 (by decide) ?_
      refine va_forget hS.2.2 ?_
      refine W.widen (k := 600002) (n := 7302232) (Nat.le_of_ble_eq_true rfl) (Nat.le_of_ble_eq_true rfl) ?_
      exact lw_ret hx hb hr hlocks dL_law_501
    · refine lv_tableIn (tgt := 332) hx hb dL_law_40 (by decide) (by decide) rfl (by decide) ?_
      refine lv_aload_n hx hb dL_law_332 rfl (lv_at hl 3 rfl) ?_
      refine lv_aload_n hx hb dL_law_333 rfl (lv_at hl 4 rfl) ?_
      refine lv_iload hx hb dL_law_334 (lv_at hl 0 rfl) ?_
      refine lv_iconst (v := 1) hx hb dL_law_336 (by decide) ?_
      refine lv_iadd hx hb dL_law_337 ?_
      refine k_i (v := 1) (by decide) ?_
      refine va_sld hx hb hX hbl hbA hS (by unfold vp_in; decide) dL_law_338 ?_
      refine k_i (v := xs 1) (congrArg xs (by decide)) ?_
      have hPc := hP.sub (ws' := [(o1, .inr (11, fx)), (qm, .inr (3, fm))]) [0, 12] rfl
      have hDc := hD.sub (ws' := [(o1, .inr (11, fx)), (qm, .inr (3, fm))]) [0, 12] (by decide) rfl
      have hKc := hK.sub (tys' := []) [] rfl
      have hFc := va_free (wc := [(o1, .inr (11, fx)), (qm, .inr (3, fm))]) hD hS hA [0, 12] rfl
      refine va_calli (va_runV (As := [.int (xs 1)]) (rest := []) ⟨hx, hb, hml, hown, hts⟩ (c_MeetingHouse_key l dC dI o1 H.size fx fm qm (xs 1)) (cwV 1 hts (gV (y := yX11_key) _ 599 600 601 440 396 rfl rfl rfl rfl rfl) rfl rfl rfl (by decide +kernel) ⟨Nat.le_of_ble_eq_true rfl, Nat.le_of_ble_eq_true rfl⟩) ⟨fun a U g mk q => by obtain ⟨q0, q1, qJ, qM, qP, qK, qD⟩ := q; exact ⟨q0, q1, qJ, qM, qP, va_K.moved (u := U) (U := U.calling g mk a) (Vm.Alike.refl U.vm) qK, qD⟩, va_recv hKc hPc (ci := 11) (q0 := 0) rfl rfl, fun U hU hW => ⟨rfl, by rw [hU], kJ_sub hJ (by simp), kJ_sub hM (by simp), by rw [hU]; exact hPc, va_K.moved hW.alike hKc, hDc.weaken (fun _ _ _ _ => trivial)⟩⟩ rfl rfl hl.1 rfl (lv_room (Nat.le_of_ble_eq_true rfl)) dL_law_339 ⟨Nat.le_of_ble_eq_true rfl, Nat.le_of_ble_eq_true rfl⟩) hS (fun q _ h => hFc q h) hFc (fun r u t H1 locs ht hvm hw hB hz1 hk1 hS => ?_)
      subst hw
      obtain ⟨hP, hD⟩ := va_join (wr := [(qt, .inr (7, ft)), (t_tape, .inl (ct_tape, 6000, .inl (fun _ => 0))), (t_kind, .inl (ct_kind, 6010, .inl (fun _ => 0))), (t_value, .inl (ct_value, 6010, .inl (fun _ => 0))), (t_line, .inl (ct_line, 6010, .inl (fun _ => 0))), (t_blanks, .inl (ct_blanks, 6010, .inl (fun _ => 0))), (t_letters, .inl (ct_letters, 6400, .inl (fun _ => 0))), (t_nameFrom, .inl (ct_nameFrom, 3150, .inl (fun _ => 0))), (t_nameNext, .inl (ct_nameNext, 3150, .inl (fun _ => 0))), (t_bucket, .inl (ct_bucket, 512, .inl (fun _ => 0))), (qr, .inr (8, fr)), (o2, .inr (13, fs)), (qh, .inr (12, fsH)), (q2, .inl (c2, 6000, .inl (fun _ => 0))), (q7, .inl (c7, 12002, .inl (fun _ => 0))), (q8, .inl (c8, 12002, .inl (fun _ => 0))), (q9, .inl (c9, 12002, .inl (fun _ => 0))), (q10, .inl (c10, 12002, .inl (fun _ => 0)))]) (w1 := []) hP hD [0, 12] [1, 2, 3, 4, 5, 6, 7, 8, 9, 10, 11, 13, 14, 15, 16, 17, 18, 19] rfl rfl (by decide) (by decide) hk1 hFc (va_P_nil (H := H1)) va_D_nil
      have hK := hK.sub (tys' := [(ct_tape, .byte), (ct_kind, .int), (ct_value, .int), (ct_line, .int), (ct_blanks, .int), (ct_letters, .byte), (ct_nameFrom, .int), (ct_nameNext, .int), (ct_bucket, .int), (c2, .int), (c7, .int), (c8, .int), (c9, .int), (c10, .int)]) [0, 1, 2, 3, 4, 5, 6, 7, 8, 9, 10, 11, 12, 13] rfl
      clear hPc hDc hKc hFc hk1 hz1 ht hB
      generalize H1 = H at hP hS ⊢
      have hP : va_P (dC, dI) vwCl [(qt, .inr (7, ft)), (t_tape, .inl (ct_tape, 6000, .inl (fun _ => 0))), (t_kind, .inl (ct_kind, 6010, .inl (fun _ => 0))), (t_value, .inl (ct_value, 6010, .inl (fun _ => 0))), (t_line, .inl (ct_line, 6010, .inl (fun _ => 0))), (t_blanks, .inl (ct_blanks, 6010, .inl (fun _ => 0))), (t_letters, .inl (ct_letters, 6400, .inl (fun _ => 0))), (t_nameFrom, .inl (ct_nameFrom, 3150, .inl (fun _ => 0))), (t_nameNext, .inl (ct_nameNext, 3150, .inl (fun _ => 0))), (t_bucket, .inl (ct_bucket, 512, .inl (fun _ => 0))), (qr, .inr (8, fr)), (o2, .inr (13, fs)), (qh, .inr (12, fsH)), (q2, .inl (c2, 6000, .inl (fun _ => 0))), (q7, .inl (c7, 12002, .inl (fun _ => 0))), (q8, .inl (c8, 12002, .inl (fun _ => 0))), (q9, .inl (c9, 12002, .inl (fun _ => 0))), (q10, .inl (c10, 12002, .inl (fun _ => 0)))] H := hP
      have hD : va_D (fun q : Nat => s.heap.size ≤ q) [(qt, .inr (7, ft)), (t_tape, .inl (ct_tape, 6000, .inl (fun _ => 0))), (t_kind, .inl (ct_kind, 6010, .inl (fun _ => 0))), (t_value, .inl (ct_value, 6010, .inl (fun _ => 0))), (t_line, .inl (ct_line, 6010, .inl (fun _ => 0))), (t_blanks, .inl (ct_blanks, 6010, .inl (fun _ => 0))), (t_letters, .inl (ct_letters, 6400, .inl (fun _ => 0))), (t_nameFrom, .inl (ct_nameFrom, 3150, .inl (fun _ => 0))), (t_nameNext, .inl (ct_nameNext, 3150, .inl (fun _ => 0))), (t_bucket, .inl (ct_bucket, 512, .inl (fun _ => 0))), (qr, .inr (8, fr)), (o2, .inr (13, fs)), (qh, .inr (12, fsH)), (q2, .inl (c2, 6000, .inl (fun _ => 0))), (q7, .inl (c7, 12002, .inl (fun _ => 0))), (q8, .inl (c8, 12002, .inl (fun _ => 0))), (q9, .inl (c9, 12002, .inl (fun _ => 0))), (q10, .inl (c10, 12002, .inl (fun _ => 0)))] := hD
      refine lv_aload_n hx hb dL_law_342 rfl (lv_at hl 2 rfl) ?_
      refine lv_aload_n hx hb dL_law_343 rfl (lv_at hl 4 rfl) ?_
      refine lv_iload hx hb dL_law_344 (lv_at hl 0 rfl) ?_
      refine lv_iconst (v := 1) hx hb dL_law_346 (by decide) ?_
      refine lv_iadd hx hb dL_law_347 ?_
      refine k_i (v := 1) (by decide) ?_
      refine va_sld hx hb hX hbl hbA hS (by unfold vp_in; decide) dL_law_348 ?_
      refine k_i (v := xs 1) (congrArg xs (by decide)) ?_
      have hPc := hP.sub (ws' := [(o2, .inr (13, fs))]) [11] rfl
      have hDc := hD.sub (ws' := [(o2, .inr (13, fs))]) [11] (by decide) rfl
      have hKc := hK.sub (tys' := []) [] rfl
      have hFc := va_free (wc := [(o2, .inr (13, fs))]) hD hS hA [11] rfl
      refine va_calli (va_runV (As := [.int (xs 1)]) (rest := [.int 0]) ⟨hx, hb, hml, hown, hts⟩ (c_M_key l dC dI o2 H.size fs (xs 1)) (cwV 1 hts (gV (y := yX13_key) _ 602 603 604 149 150 rfl rfl rfl rfl rfl) rfl rfl rfl (by decide +kernel) ⟨Nat.le_of_ble_eq_true rfl, Nat.le_of_ble_eq_true rfl⟩) ⟨fun a U g mk q => by obtain ⟨q0, q1, qJ, qP, qK, qD⟩ := q; exact ⟨q0, q1, qJ, qP, va_K.moved (u := U) (U := U.calling g mk a) (Vm.Alike.refl U.vm) qK, qD⟩, va_recv hKc hPc (ci := 13) (q0 := 0) rfl rfl, fun U hU hW => ⟨rfl, by rw [hU], kJ_sub hMJ (by simp [mL]), by rw [hU]; exact hPc, va_K.moved hW.alike hKc, hDc.weaken (fun _ _ _ _ => trivial)⟩⟩ rfl rfl hl.1 rfl (lv_room (Nat.le_of_ble_eq_true rfl)) dL_law_349 ⟨Nat.le_of_ble_eq_true rfl, Nat.le_of_ble_eq_true rfl⟩) hS (fun q _ h => hFc q h) hFc (fun r u t H1 locs ht hvm hw hB hz1 hk1 hS => ?_)
      subst hw
      obtain ⟨hP, hD⟩ := va_join (wr := [(qt, .inr (7, ft)), (t_tape, .inl (ct_tape, 6000, .inl (fun _ => 0))), (t_kind, .inl (ct_kind, 6010, .inl (fun _ => 0))), (t_value, .inl (ct_value, 6010, .inl (fun _ => 0))), (t_line, .inl (ct_line, 6010, .inl (fun _ => 0))), (t_blanks, .inl (ct_blanks, 6010, .inl (fun _ => 0))), (t_letters, .inl (ct_letters, 6400, .inl (fun _ => 0))), (t_nameFrom, .inl (ct_nameFrom, 3150, .inl (fun _ => 0))), (t_nameNext, .inl (ct_nameNext, 3150, .inl (fun _ => 0))), (t_bucket, .inl (ct_bucket, 512, .inl (fun _ => 0))), (qr, .inr (8, fr)), (qh, .inr (12, fsH)), (q2, .inl (c2, 6000, .inl (fun _ => 0))), (q7, .inl (c7, 12002, .inl (fun _ => 0))), (q8, .inl (c8, 12002, .inl (fun _ => 0))), (q9, .inl (c9, 12002, .inl (fun _ => 0))), (q10, .inl (c10, 12002, .inl (fun _ => 0)))]) (w1 := []) hP hD [11] [0, 1, 2, 3, 4, 5, 6, 7, 8, 9, 10, 12, 13, 14, 15, 16, 17] rfl rfl (by decide) (by decide) hk1 hFc (va_P_nil (H := H1)) va_D_nil
      have hK := hK.sub (tys' := [(ct_tape, .byte), (ct_kind, .int), (ct_value, .int), (ct_line, .int), (ct_blanks, .int), (ct_letters, .byte), (ct_nameFrom, .int), (ct_nameNext, .int), (ct_bucket, .int), (c2, .int), (c7, .int), (c8, .int), (c9, .int), (c10, .int)]) [0, 1, 2, 3, 4, 5, 6, 7, 8, 9, 10, 11, 12, 13] rfl
      clear hPc hDc hKc hFc hk1 hz1 ht hB
      generalize H1 = H at hP hS ⊢
      have hP : va_P (dC, dI) vwCl [(qt, .inr (7, ft)), (t_tape, .inl (ct_tape, 6000, .inl (fun _ => 0))), (t_kind, .inl (ct_kind, 6010, .inl (fun _ => 0))), (t_value, .inl (ct_value, 6010, .inl (fun _ => 0))), (t_line, .inl (ct_line, 6010, .inl (fun _ => 0))), (t_blanks, .inl (ct_blanks, 6010, .inl (fun _ => 0))), (t_letters, .inl (ct_letters, 6400, .inl (fun _ => 0))), (t_nameFrom, .inl (ct_nameFrom, 3150, .inl (fun _ => 0))), (t_nameNext, .inl (ct_nameNext, 3150, .inl (fun _ => 0))), (t_bucket, .inl (ct_bucket, 512, .inl (fun _ => 0))), (qr, .inr (8, fr)), (qh, .inr (12, fsH)), (q2, .inl (c2, 6000, .inl (fun _ => 0))), (q7, .inl (c7, 12002, .inl (fun _ => 0))), (q8, .inl (c8, 12002, .inl (fun _ => 0))), (q9, .inl (c9, 12002, .inl (fun _ => 0))), (q10, .inl (c10, 12002, .inl (fun _ => 0)))] H := hP
      have hD : va_D (fun q : Nat => s.heap.size ≤ q) [(qt, .inr (7, ft)), (t_tape, .inl (ct_tape, 6000, .inl (fun _ => 0))), (t_kind, .inl (ct_kind, 6010, .inl (fun _ => 0))), (t_value, .inl (ct_value, 6010, .inl (fun _ => 0))), (t_line, .inl (ct_line, 6010, .inl (fun _ => 0))), (t_blanks, .inl (ct_blanks, 6010, .inl (fun _ => 0))), (t_letters, .inl (ct_letters, 6400, .inl (fun _ => 0))), (t_nameFrom, .inl (ct_nameFrom, 3150, .inl (fun _ => 0))), (t_nameNext, .inl (ct_nameNext, 3150, .inl (fun _ => 0))), (t_bucket, .inl (ct_bucket, 512, .inl (fun _ => 0))), (qr, .inr (8, fr)), (qh, .inr (12, fsH)), (q2, .inl (c2, 6000, .inl (fun _ => 0))), (q7, .inl (c7, 12002, .inl (fun _ => 0))), (q8, .inl (c8, 12002, .inl (fun _ => 0))), (q9, .inl (c9, 12002, .inl (fun _ => 0))), (q10, .inl (c10, 12002, .inl (fun _ => 0)))] := hD
      refine lv_icmp_eq (tgt := 494) hx hb dL_law_352 (by decide) (fun _ => ?_) (fun h => absurd rfl h)
      refine lv_iinc (v := 6) (lv' := [(4, .int 6), (3, .ref qo), (2, .ref o2), (1, .ref o1), (0, .ref b)]) hx hb dL_law_494 hl (k := 0) rfl (by decide) (by decide) rfl (fun ls hl => ?_)
      refine lv_goto (tgt := 23) hx hb dL_law_497 (by decide) ?_
      refine lv_iload hx hb dL_law_23 (lv_at hl 0 rfl) ?_
      refine lv_aload_n hx hb dL_law_25 rfl (lv_at hl 4 rfl) ?_
      refine va_slen hx hb hX hbl hbA hS dL_law_26 ?_
      refine lv_bipush (v := 6) hx hb dL_law_27 (by decide) ?_
      refine lv_isub hx hb dL_law_29 ?_
      refine lv_icmp_gt (tgt := 500) hx hb dL_law_30 (by decide) (fun _ => ?_) (fun h => absurd (by decide) h)
      refine lv_iconst (v := 1) hx hb dL_law_500 (by decide) ?_
      refine va_forget hS.2.2 ?_
      refine W.widen (k := 600002) (n := 7302232) (Nat.le_of_ble_eq_true rfl) (Nat.le_of_ble_eq_true rfl) ?_
      exact lw_ret hx hb hr hlocks dL_law_501
    · refine lv_tableIn (tgt := 357) hx hb dL_law_40 (by decide) (by decide) rfl (by decide) ?_
      refine lv_aload_n hx hb dL_law_357 rfl (lv_at hl 3 rfl) ?_
      refine lv_aload_n hx hb dL_law_358 rfl (lv_at hl 4 rfl) ?_
      refine lv_iload hx hb dL_law_359 (lv_at hl 0 rfl) ?_
      refine lv_iconst (v := 1) hx hb dL_law_361 (by decide) ?_
      refine lv_iadd hx hb dL_law_362 ?_
      refine k_i (v := 1) (by decide) ?_
      refine va_sld hx hb hX hbl hbA hS (by unfold vp_in; decide) dL_law_363 ?_
      refine k_i (v := xs 1) (congrArg xs (by decide)) ?_
      have hPc := hP.sub (ws' := [(o1, .inr (11, fx)), (qm, .inr (3, fm))]) [0, 12] rfl
      have hDc := hD.sub (ws' := [(o1, .inr (11, fx)), (qm, .inr (3, fm))]) [0, 12] (by decide) rfl
      have hKc := hK.sub (tys' := []) [] rfl
      have hFc := va_free (wc := [(o1, .inr (11, fx)), (qm, .inr (3, fm))]) hD hS hA [0, 12] rfl
      refine va_calli (va_runV (As := [.int (xs 1)]) (rest := []) ⟨hx, hb, hml, hown, hts⟩ (c_MeetingHouse_output l dC dI o1 H.size fx fm qm (xs 1)) (cwV 1 hts (gV (y := yX11_output) _ 605 606 607 440 400 rfl rfl rfl rfl rfl) rfl rfl rfl (by decide +kernel) ⟨Nat.le_of_ble_eq_true rfl, Nat.le_of_ble_eq_true rfl⟩) ⟨fun a U g mk q => by obtain ⟨q0, q1, qJ, qM, qP, qK, qD⟩ := q; exact ⟨q0, q1, qJ, qM, qP, va_K.moved (u := U) (U := U.calling g mk a) (Vm.Alike.refl U.vm) qK, qD⟩, va_recv hKc hPc (ci := 11) (q0 := 0) rfl rfl, fun U hU hW => ⟨rfl, by rw [hU], kJ_sub hJ (by simp), kJ_sub hM (by simp), by rw [hU]; exact hPc, va_K.moved hW.alike hKc, hDc.weaken (fun _ _ _ _ => trivial)⟩⟩ rfl rfl hl.1 rfl (lv_room (Nat.le_of_ble_eq_true rfl)) dL_law_364 ⟨Nat.le_of_ble_eq_true rfl, Nat.le_of_ble_eq_true rfl⟩) hS (fun q _ h => hFc q h) hFc (fun r u t H1 locs ht hvm hw hB hz1 hk1 hS => ?_)
      subst hw
      obtain ⟨hP, hD⟩ := va_join (wr := [(qt, .inr (7, ft)), (t_tape, .inl (ct_tape, 6000, .inl (fun _ => 0))), (t_kind, .inl (ct_kind, 6010, .inl (fun _ => 0))), (t_value, .inl (ct_value, 6010, .inl (fun _ => 0))), (t_line, .inl (ct_line, 6010, .inl (fun _ => 0))), (t_blanks, .inl (ct_blanks, 6010, .inl (fun _ => 0))), (t_letters, .inl (ct_letters, 6400, .inl (fun _ => 0))), (t_nameFrom, .inl (ct_nameFrom, 3150, .inl (fun _ => 0))), (t_nameNext, .inl (ct_nameNext, 3150, .inl (fun _ => 0))), (t_bucket, .inl (ct_bucket, 512, .inl (fun _ => 0))), (qr, .inr (8, fr)), (o2, .inr (13, fs)), (qh, .inr (12, fsH)), (q2, .inl (c2, 6000, .inl (fun _ => 0))), (q7, .inl (c7, 12002, .inl (fun _ => 0))), (q8, .inl (c8, 12002, .inl (fun _ => 0))), (q9, .inl (c9, 12002, .inl (fun _ => 0))), (q10, .inl (c10, 12002, .inl (fun _ => 0)))]) (w1 := []) hP hD [0, 12] [1, 2, 3, 4, 5, 6, 7, 8, 9, 10, 11, 13, 14, 15, 16, 17, 18, 19] rfl rfl (by decide) (by decide) hk1 hFc (va_P_nil (H := H1)) va_D_nil
      have hK := hK.sub (tys' := [(ct_tape, .byte), (ct_kind, .int), (ct_value, .int), (ct_line, .int), (ct_blanks, .int), (ct_letters, .byte), (ct_nameFrom, .int), (ct_nameNext, .int), (ct_bucket, .int), (c2, .int), (c7, .int), (c8, .int), (c9, .int), (c10, .int)]) [0, 1, 2, 3, 4, 5, 6, 7, 8, 9, 10, 11, 12, 13] rfl
      clear hPc hDc hKc hFc hk1 hz1 ht hB
      generalize H1 = H at hP hS ⊢
      have hP : va_P (dC, dI) vwCl [(qt, .inr (7, ft)), (t_tape, .inl (ct_tape, 6000, .inl (fun _ => 0))), (t_kind, .inl (ct_kind, 6010, .inl (fun _ => 0))), (t_value, .inl (ct_value, 6010, .inl (fun _ => 0))), (t_line, .inl (ct_line, 6010, .inl (fun _ => 0))), (t_blanks, .inl (ct_blanks, 6010, .inl (fun _ => 0))), (t_letters, .inl (ct_letters, 6400, .inl (fun _ => 0))), (t_nameFrom, .inl (ct_nameFrom, 3150, .inl (fun _ => 0))), (t_nameNext, .inl (ct_nameNext, 3150, .inl (fun _ => 0))), (t_bucket, .inl (ct_bucket, 512, .inl (fun _ => 0))), (qr, .inr (8, fr)), (o2, .inr (13, fs)), (qh, .inr (12, fsH)), (q2, .inl (c2, 6000, .inl (fun _ => 0))), (q7, .inl (c7, 12002, .inl (fun _ => 0))), (q8, .inl (c8, 12002, .inl (fun _ => 0))), (q9, .inl (c9, 12002, .inl (fun _ => 0))), (q10, .inl (c10, 12002, .inl (fun _ => 0)))] H := hP
      have hD : va_D (fun q : Nat => s.heap.size ≤ q) [(qt, .inr (7, ft)), (t_tape, .inl (ct_tape, 6000, .inl (fun _ => 0))), (t_kind, .inl (ct_kind, 6010, .inl (fun _ => 0))), (t_value, .inl (ct_value, 6010, .inl (fun _ => 0))), (t_line, .inl (ct_line, 6010, .inl (fun _ => 0))), (t_blanks, .inl (ct_blanks, 6010, .inl (fun _ => 0))), (t_letters, .inl (ct_letters, 6400, .inl (fun _ => 0))), (t_nameFrom, .inl (ct_nameFrom, 3150, .inl (fun _ => 0))), (t_nameNext, .inl (ct_nameNext, 3150, .inl (fun _ => 0))), (t_bucket, .inl (ct_bucket, 512, .inl (fun _ => 0))), (qr, .inr (8, fr)), (o2, .inr (13, fs)), (qh, .inr (12, fsH)), (q2, .inl (c2, 6000, .inl (fun _ => 0))), (q7, .inl (c7, 12002, .inl (fun _ => 0))), (q8, .inl (c8, 12002, .inl (fun _ => 0))), (q9, .inl (c9, 12002, .inl (fun _ => 0))), (q10, .inl (c10, 12002, .inl (fun _ => 0)))] := hD
      refine lv_aload_n hx hb dL_law_367 rfl (lv_at hl 2 rfl) ?_
      refine lv_aload_n hx hb dL_law_368 rfl (lv_at hl 4 rfl) ?_
      refine lv_iload hx hb dL_law_369 (lv_at hl 0 rfl) ?_
      refine lv_iconst (v := 1) hx hb dL_law_371 (by decide) ?_
      refine lv_iadd hx hb dL_law_372 ?_
      refine k_i (v := 1) (by decide) ?_
      refine va_sld hx hb hX hbl hbA hS (by unfold vp_in; decide) dL_law_373 ?_
      refine k_i (v := xs 1) (congrArg xs (by decide)) ?_
      have hPc := hP.sub (ws' := [(o2, .inr (13, fs))]) [11] rfl
      have hDc := hD.sub (ws' := [(o2, .inr (13, fs))]) [11] (by decide) rfl
      have hKc := hK.sub (tys' := []) [] rfl
      have hFc := va_free (wc := [(o2, .inr (13, fs))]) hD hS hA [11] rfl
      refine va_calli (va_runV (As := [.int (xs 1)]) (rest := [.int ((-1))]) ⟨hx, hb, hml, hown, hts⟩ (c_M_output l dC dI o2 H.size fs (xs 1)) (cwV 1 hts (gV (y := yX13_output) _ 608 609 610 149 151 rfl rfl rfl rfl rfl) rfl rfl rfl (by decide +kernel) ⟨Nat.le_of_ble_eq_true rfl, Nat.le_of_ble_eq_true rfl⟩) ⟨fun a U g mk q => by obtain ⟨q0, q1, qJ, qP, qK, qD⟩ := q; exact ⟨q0, q1, qJ, qP, va_K.moved (u := U) (U := U.calling g mk a) (Vm.Alike.refl U.vm) qK, qD⟩, va_recv hKc hPc (ci := 13) (q0 := 0) rfl rfl, fun U hU hW => ⟨rfl, by rw [hU], kJ_sub hMJ (by simp [mL]), by rw [hU]; exact hPc, va_K.moved hW.alike hKc, hDc.weaken (fun _ _ _ _ => trivial)⟩⟩ rfl rfl hl.1 rfl (lv_room (Nat.le_of_ble_eq_true rfl)) dL_law_374 ⟨Nat.le_of_ble_eq_true rfl, Nat.le_of_ble_eq_true rfl⟩) hS (fun q _ h => hFc q h) hFc (fun r u t H1 locs ht hvm hw hB hz1 hk1 hS => ?_)
      subst hw
      obtain ⟨hP, hD⟩ := va_join (wr := [(qt, .inr (7, ft)), (t_tape, .inl (ct_tape, 6000, .inl (fun _ => 0))), (t_kind, .inl (ct_kind, 6010, .inl (fun _ => 0))), (t_value, .inl (ct_value, 6010, .inl (fun _ => 0))), (t_line, .inl (ct_line, 6010, .inl (fun _ => 0))), (t_blanks, .inl (ct_blanks, 6010, .inl (fun _ => 0))), (t_letters, .inl (ct_letters, 6400, .inl (fun _ => 0))), (t_nameFrom, .inl (ct_nameFrom, 3150, .inl (fun _ => 0))), (t_nameNext, .inl (ct_nameNext, 3150, .inl (fun _ => 0))), (t_bucket, .inl (ct_bucket, 512, .inl (fun _ => 0))), (qr, .inr (8, fr)), (qh, .inr (12, fsH)), (q2, .inl (c2, 6000, .inl (fun _ => 0))), (q7, .inl (c7, 12002, .inl (fun _ => 0))), (q8, .inl (c8, 12002, .inl (fun _ => 0))), (q9, .inl (c9, 12002, .inl (fun _ => 0))), (q10, .inl (c10, 12002, .inl (fun _ => 0)))]) (w1 := []) hP hD [11] [0, 1, 2, 3, 4, 5, 6, 7, 8, 9, 10, 12, 13, 14, 15, 16, 17] rfl rfl (by decide) (by decide) hk1 hFc (va_P_nil (H := H1)) va_D_nil
      have hK := hK.sub (tys' := [(ct_tape, .byte), (ct_kind, .int), (ct_value, .int), (ct_line, .int), (ct_blanks, .int), (ct_letters, .byte), (ct_nameFrom, .int), (ct_nameNext, .int), (ct_bucket, .int), (c2, .int), (c7, .int), (c8, .int), (c9, .int), (c10, .int)]) [0, 1, 2, 3, 4, 5, 6, 7, 8, 9, 10, 11, 12, 13] rfl
      clear hPc hDc hKc hFc hk1 hz1 ht hB
      generalize H1 = H at hP hS ⊢
      have hP : va_P (dC, dI) vwCl [(qt, .inr (7, ft)), (t_tape, .inl (ct_tape, 6000, .inl (fun _ => 0))), (t_kind, .inl (ct_kind, 6010, .inl (fun _ => 0))), (t_value, .inl (ct_value, 6010, .inl (fun _ => 0))), (t_line, .inl (ct_line, 6010, .inl (fun _ => 0))), (t_blanks, .inl (ct_blanks, 6010, .inl (fun _ => 0))), (t_letters, .inl (ct_letters, 6400, .inl (fun _ => 0))), (t_nameFrom, .inl (ct_nameFrom, 3150, .inl (fun _ => 0))), (t_nameNext, .inl (ct_nameNext, 3150, .inl (fun _ => 0))), (t_bucket, .inl (ct_bucket, 512, .inl (fun _ => 0))), (qr, .inr (8, fr)), (qh, .inr (12, fsH)), (q2, .inl (c2, 6000, .inl (fun _ => 0))), (q7, .inl (c7, 12002, .inl (fun _ => 0))), (q8, .inl (c8, 12002, .inl (fun _ => 0))), (q9, .inl (c9, 12002, .inl (fun _ => 0))), (q10, .inl (c10, 12002, .inl (fun _ => 0)))] H := hP
      have hD : va_D (fun q : Nat => s.heap.size ≤ q) [(qt, .inr (7, ft)), (t_tape, .inl (ct_tape, 6000, .inl (fun _ => 0))), (t_kind, .inl (ct_kind, 6010, .inl (fun _ => 0))), (t_value, .inl (ct_value, 6010, .inl (fun _ => 0))), (t_line, .inl (ct_line, 6010, .inl (fun _ => 0))), (t_blanks, .inl (ct_blanks, 6010, .inl (fun _ => 0))), (t_letters, .inl (ct_letters, 6400, .inl (fun _ => 0))), (t_nameFrom, .inl (ct_nameFrom, 3150, .inl (fun _ => 0))), (t_nameNext, .inl (ct_nameNext, 3150, .inl (fun _ => 0))), (t_bucket, .inl (ct_bucket, 512, .inl (fun _ => 0))), (qr, .inr (8, fr)), (qh, .inr (12, fsH)), (q2, .inl (c2, 6000, .inl (fun _ => 0))), (q7, .inl (c7, 12002, .inl (fun _ => 0))), (q8, .inl (c8, 12002, .inl (fun _ => 0))), (q9, .inl (c9, 12002, .inl (fun _ => 0))), (q10, .inl (c10, 12002, .inl (fun _ => 0)))] := hD
      refine lv_icmp_eq (tgt := 494) hx hb dL_law_377 (by decide) (fun _ => ?_) (fun h => absurd rfl h)
      refine lv_iinc (v := 6) (lv' := [(4, .int 6), (3, .ref qo), (2, .ref o2), (1, .ref o1), (0, .ref b)]) hx hb dL_law_494 hl (k := 0) rfl (by decide) (by decide) rfl (fun ls hl => ?_)
      refine lv_goto (tgt := 23) hx hb dL_law_497 (by decide) ?_
      refine lv_iload hx hb dL_law_23 (lv_at hl 0 rfl) ?_
      refine lv_aload_n hx hb dL_law_25 rfl (lv_at hl 4 rfl) ?_
      refine va_slen hx hb hX hbl hbA hS dL_law_26 ?_
      refine lv_bipush (v := 6) hx hb dL_law_27 (by decide) ?_
      refine lv_isub hx hb dL_law_29 ?_
      refine lv_icmp_gt (tgt := 500) hx hb dL_law_30 (by decide) (fun _ => ?_) (fun h => absurd (by decide) h)
      refine lv_iconst (v := 1) hx hb dL_law_500 (by decide) ?_
      refine va_forget hS.2.2 ?_
      refine W.widen (k := 600002) (n := 7302232) (Nat.le_of_ble_eq_true rfl) (Nat.le_of_ble_eq_true rfl) ?_
      exact lw_ret hx hb hr hlocks dL_law_501
    · refine lv_tableIn (tgt := 382) hx hb dL_law_40 (by decide) (by decide) rfl (by decide) ?_
      refine lv_aload_n hx hb dL_law_382 rfl (lv_at hl 3 rfl) ?_
      refine lv_aload_n hx hb dL_law_383 rfl (lv_at hl 4 rfl) ?_
      refine lv_iload hx hb dL_law_384 (lv_at hl 0 rfl) ?_
      refine lv_iconst (v := 1) hx hb dL_law_386 (by decide) ?_
      refine lv_iadd hx hb dL_law_387 ?_
      refine k_i (v := 1) (by decide) ?_
      refine va_sld hx hb hX hbl hbA hS (by unfold vp_in; decide) dL_law_388 ?_
      refine k_i (v := xs 1) (congrArg xs (by decide)) ?_
      refine lv_aload_n hx hb dL_law_389 rfl (lv_at hl 4 rfl) ?_
      refine lv_iload hx hb dL_law_390 (lv_at hl 0 rfl) ?_
      refine lv_iconst (v := 2) hx hb dL_law_392 (by decide) ?_
      refine lv_iadd hx hb dL_law_393 ?_
      refine k_i (v := 2) (by decide) ?_
      refine va_sld hx hb hX hbl hbA hS (by unfold vp_in; decide) dL_law_394 ?_
      refine k_i (v := xs 2) (congrArg xs (by decide)) ?_
      have hPc := hP.sub (ws' := [(o1, .inr (11, fx)), (qm, .inr (3, fm))]) [0, 12] rfl
      have hDc := hD.sub (ws' := [(o1, .inr (11, fx)), (qm, .inr (3, fm))]) [0, 12] (by decide) rfl
      have hKc := hK.sub (tys' := []) [] rfl
      have hFc := va_free (wc := [(o1, .inr (11, fx)), (qm, .inr (3, fm))]) hD hS hA [0, 12] rfl
      refine va_calli (va_runV (As := [.int (xs 1), .int (xs 2)]) (rest := []) ⟨hx, hb, hml, hown, hts⟩ (c_MeetingHouse_process l dC dI o1 H.size fx fm qm (xs 1) (xs 2)) (cwV 2 hts (gV (y := yX11_process) _ 611 612 613 440 404 rfl rfl rfl rfl rfl) rfl rfl rfl (by decide +kernel) ⟨Nat.le_of_ble_eq_true rfl, Nat.le_of_ble_eq_true rfl⟩) ⟨fun a U g mk q => by obtain ⟨q0, q1, qJ, qM, qP, qK, qD⟩ := q; exact ⟨q0, q1, qJ, qM, qP, va_K.moved (u := U) (U := U.calling g mk a) (Vm.Alike.refl U.vm) qK, qD⟩, va_recv hKc hPc (ci := 11) (q0 := 0) rfl rfl, fun U hU hW => ⟨rfl, by rw [hU], kJ_sub hJ (by simp), kJ_sub hM (by simp), by rw [hU]; exact hPc, va_K.moved hW.alike hKc, hDc.weaken (fun _ _ _ _ => trivial)⟩⟩ rfl rfl hl.1 rfl (lv_room (Nat.le_of_ble_eq_true rfl)) dL_law_395 ⟨Nat.le_of_ble_eq_true rfl, Nat.le_of_ble_eq_true rfl⟩) hS (fun q _ h => hFc q h) hFc (fun r u t H1 locs ht hvm hw hB hz1 hk1 hS => ?_)
      subst hw
      obtain ⟨hP, hD⟩ := va_join (wr := [(qt, .inr (7, ft)), (t_tape, .inl (ct_tape, 6000, .inl (fun _ => 0))), (t_kind, .inl (ct_kind, 6010, .inl (fun _ => 0))), (t_value, .inl (ct_value, 6010, .inl (fun _ => 0))), (t_line, .inl (ct_line, 6010, .inl (fun _ => 0))), (t_blanks, .inl (ct_blanks, 6010, .inl (fun _ => 0))), (t_letters, .inl (ct_letters, 6400, .inl (fun _ => 0))), (t_nameFrom, .inl (ct_nameFrom, 3150, .inl (fun _ => 0))), (t_nameNext, .inl (ct_nameNext, 3150, .inl (fun _ => 0))), (t_bucket, .inl (ct_bucket, 512, .inl (fun _ => 0))), (qr, .inr (8, fr)), (o2, .inr (13, fs)), (qh, .inr (12, fsH)), (q2, .inl (c2, 6000, .inl (fun _ => 0))), (q7, .inl (c7, 12002, .inl (fun _ => 0))), (q8, .inl (c8, 12002, .inl (fun _ => 0))), (q9, .inl (c9, 12002, .inl (fun _ => 0))), (q10, .inl (c10, 12002, .inl (fun _ => 0)))]) (w1 := []) hP hD [0, 12] [1, 2, 3, 4, 5, 6, 7, 8, 9, 10, 11, 13, 14, 15, 16, 17, 18, 19] rfl rfl (by decide) (by decide) hk1 hFc (va_P_nil (H := H1)) va_D_nil
      have hK := hK.sub (tys' := [(ct_tape, .byte), (ct_kind, .int), (ct_value, .int), (ct_line, .int), (ct_blanks, .int), (ct_letters, .byte), (ct_nameFrom, .int), (ct_nameNext, .int), (ct_bucket, .int), (c2, .int), (c7, .int), (c8, .int), (c9, .int), (c10, .int)]) [0, 1, 2, 3, 4, 5, 6, 7, 8, 9, 10, 11, 12, 13] rfl
      clear hPc hDc hKc hFc hk1 hz1 ht hB
      generalize H1 = H at hP hS ⊢
      have hP : va_P (dC, dI) vwCl [(qt, .inr (7, ft)), (t_tape, .inl (ct_tape, 6000, .inl (fun _ => 0))), (t_kind, .inl (ct_kind, 6010, .inl (fun _ => 0))), (t_value, .inl (ct_value, 6010, .inl (fun _ => 0))), (t_line, .inl (ct_line, 6010, .inl (fun _ => 0))), (t_blanks, .inl (ct_blanks, 6010, .inl (fun _ => 0))), (t_letters, .inl (ct_letters, 6400, .inl (fun _ => 0))), (t_nameFrom, .inl (ct_nameFrom, 3150, .inl (fun _ => 0))), (t_nameNext, .inl (ct_nameNext, 3150, .inl (fun _ => 0))), (t_bucket, .inl (ct_bucket, 512, .inl (fun _ => 0))), (qr, .inr (8, fr)), (o2, .inr (13, fs)), (qh, .inr (12, fsH)), (q2, .inl (c2, 6000, .inl (fun _ => 0))), (q7, .inl (c7, 12002, .inl (fun _ => 0))), (q8, .inl (c8, 12002, .inl (fun _ => 0))), (q9, .inl (c9, 12002, .inl (fun _ => 0))), (q10, .inl (c10, 12002, .inl (fun _ => 0)))] H := hP
      have hD : va_D (fun q : Nat => s.heap.size ≤ q) [(qt, .inr (7, ft)), (t_tape, .inl (ct_tape, 6000, .inl (fun _ => 0))), (t_kind, .inl (ct_kind, 6010, .inl (fun _ => 0))), (t_value, .inl (ct_value, 6010, .inl (fun _ => 0))), (t_line, .inl (ct_line, 6010, .inl (fun _ => 0))), (t_blanks, .inl (ct_blanks, 6010, .inl (fun _ => 0))), (t_letters, .inl (ct_letters, 6400, .inl (fun _ => 0))), (t_nameFrom, .inl (ct_nameFrom, 3150, .inl (fun _ => 0))), (t_nameNext, .inl (ct_nameNext, 3150, .inl (fun _ => 0))), (t_bucket, .inl (ct_bucket, 512, .inl (fun _ => 0))), (qr, .inr (8, fr)), (o2, .inr (13, fs)), (qh, .inr (12, fsH)), (q2, .inl (c2, 6000, .inl (fun _ => 0))), (q7, .inl (c7, 12002, .inl (fun _ => 0))), (q8, .inl (c8, 12002, .inl (fun _ => 0))), (q9, .inl (c9, 12002, .inl (fun _ => 0))), (q10, .inl (c10, 12002, .inl (fun _ => 0)))] := hD
      refine lv_aload_n hx hb dL_law_398 rfl (lv_at hl 2 rfl) ?_
      refine lv_aload_n hx hb dL_law_399 rfl (lv_at hl 4 rfl) ?_
      refine lv_iload hx hb dL_law_400 (lv_at hl 0 rfl) ?_
      refine lv_iconst (v := 1) hx hb dL_law_402 (by decide) ?_
      refine lv_iadd hx hb dL_law_403 ?_
      refine k_i (v := 1) (by decide) ?_
      refine va_sld hx hb hX hbl hbA hS (by unfold vp_in; decide) dL_law_404 ?_
      refine k_i (v := xs 1) (congrArg xs (by decide)) ?_
      refine lv_aload_n hx hb dL_law_405 rfl (lv_at hl 4 rfl) ?_
      refine lv_iload hx hb dL_law_406 (lv_at hl 0 rfl) ?_
      refine lv_iconst (v := 2) hx hb dL_law_408 (by decide) ?_
      refine lv_iadd hx hb dL_law_409 ?_
      refine k_i (v := 2) (by decide) ?_
      refine va_sld hx hb hX hbl hbA hS (by unfold vp_in; decide) dL_law_410 ?_
      refine k_i (v := xs 2) (congrArg xs (by decide)) ?_
      have hPc := hP.sub (ws' := [(o2, .inr (13, fs))]) [11] rfl
      have hDc := hD.sub (ws' := [(o2, .inr (13, fs))]) [11] (by decide) rfl
      have hKc := hK.sub (tys' := []) [] rfl
      have hFc := va_free (wc := [(o2, .inr (13, fs))]) hD hS hA [11] rfl
      refine va_calli (va_runV (As := [.int (xs 1), .int (xs 2)]) (rest := [.int ((-1))]) ⟨hx, hb, hml, hown, hts⟩ (c_M_process_ l dC dI o2 H.size fs (xs 1) (xs 2)) (cwV 2 hts (gV (y := yX13_process_) _ 614 615 616 149 137 rfl rfl rfl rfl rfl) rfl rfl rfl (by decide +kernel) ⟨Nat.le_of_ble_eq_true rfl, Nat.le_of_ble_eq_true rfl⟩) ⟨fun a U g mk q => by obtain ⟨q0, q1, qJ, qP, qK, qD⟩ := q; exact ⟨q0, q1, qJ, qP, va_K.moved (u := U) (U := U.calling g mk a) (Vm.Alike.refl U.vm) qK, qD⟩, va_recv hKc hPc (ci := 13) (q0 := 0) rfl rfl, fun U hU hW => ⟨rfl, by rw [hU], kJ_sub hMJ (by simp [mL]), by rw [hU]; exact hPc, va_K.moved hW.alike hKc, hDc.weaken (fun _ _ _ _ => trivial)⟩⟩ rfl rfl hl.1 rfl (lv_room (Nat.le_of_ble_eq_true rfl)) dL_law_411 ⟨Nat.le_of_ble_eq_true rfl, Nat.le_of_ble_eq_true rfl⟩) hS (fun q _ h => hFc q h) hFc (fun r u t H1 locs ht hvm hw hB hz1 hk1 hS => ?_)
      subst hw
      obtain ⟨hP, hD⟩ := va_join (wr := [(qt, .inr (7, ft)), (t_tape, .inl (ct_tape, 6000, .inl (fun _ => 0))), (t_kind, .inl (ct_kind, 6010, .inl (fun _ => 0))), (t_value, .inl (ct_value, 6010, .inl (fun _ => 0))), (t_line, .inl (ct_line, 6010, .inl (fun _ => 0))), (t_blanks, .inl (ct_blanks, 6010, .inl (fun _ => 0))), (t_letters, .inl (ct_letters, 6400, .inl (fun _ => 0))), (t_nameFrom, .inl (ct_nameFrom, 3150, .inl (fun _ => 0))), (t_nameNext, .inl (ct_nameNext, 3150, .inl (fun _ => 0))), (t_bucket, .inl (ct_bucket, 512, .inl (fun _ => 0))), (qr, .inr (8, fr)), (qh, .inr (12, fsH)), (q2, .inl (c2, 6000, .inl (fun _ => 0))), (q7, .inl (c7, 12002, .inl (fun _ => 0))), (q8, .inl (c8, 12002, .inl (fun _ => 0))), (q9, .inl (c9, 12002, .inl (fun _ => 0))), (q10, .inl (c10, 12002, .inl (fun _ => 0)))]) (w1 := []) hP hD [11] [0, 1, 2, 3, 4, 5, 6, 7, 8, 9, 10, 12, 13, 14, 15, 16, 17] rfl rfl (by decide) (by decide) hk1 hFc (va_P_nil (H := H1)) va_D_nil
      have hK := hK.sub (tys' := [(ct_tape, .byte), (ct_kind, .int), (ct_value, .int), (ct_line, .int), (ct_blanks, .int), (ct_letters, .byte), (ct_nameFrom, .int), (ct_nameNext, .int), (ct_bucket, .int), (c2, .int), (c7, .int), (c8, .int), (c9, .int), (c10, .int)]) [0, 1, 2, 3, 4, 5, 6, 7, 8, 9, 10, 11, 12, 13] rfl
      clear hPc hDc hKc hFc hk1 hz1 ht hB
      generalize H1 = H at hP hS ⊢
      have hP : va_P (dC, dI) vwCl [(qt, .inr (7, ft)), (t_tape, .inl (ct_tape, 6000, .inl (fun _ => 0))), (t_kind, .inl (ct_kind, 6010, .inl (fun _ => 0))), (t_value, .inl (ct_value, 6010, .inl (fun _ => 0))), (t_line, .inl (ct_line, 6010, .inl (fun _ => 0))), (t_blanks, .inl (ct_blanks, 6010, .inl (fun _ => 0))), (t_letters, .inl (ct_letters, 6400, .inl (fun _ => 0))), (t_nameFrom, .inl (ct_nameFrom, 3150, .inl (fun _ => 0))), (t_nameNext, .inl (ct_nameNext, 3150, .inl (fun _ => 0))), (t_bucket, .inl (ct_bucket, 512, .inl (fun _ => 0))), (qr, .inr (8, fr)), (qh, .inr (12, fsH)), (q2, .inl (c2, 6000, .inl (fun _ => 0))), (q7, .inl (c7, 12002, .inl (fun _ => 0))), (q8, .inl (c8, 12002, .inl (fun _ => 0))), (q9, .inl (c9, 12002, .inl (fun _ => 0))), (q10, .inl (c10, 12002, .inl (fun _ => 0)))] H := hP
      have hD : va_D (fun q : Nat => s.heap.size ≤ q) [(qt, .inr (7, ft)), (t_tape, .inl (ct_tape, 6000, .inl (fun _ => 0))), (t_kind, .inl (ct_kind, 6010, .inl (fun _ => 0))), (t_value, .inl (ct_value, 6010, .inl (fun _ => 0))), (t_line, .inl (ct_line, 6010, .inl (fun _ => 0))), (t_blanks, .inl (ct_blanks, 6010, .inl (fun _ => 0))), (t_letters, .inl (ct_letters, 6400, .inl (fun _ => 0))), (t_nameFrom, .inl (ct_nameFrom, 3150, .inl (fun _ => 0))), (t_nameNext, .inl (ct_nameNext, 3150, .inl (fun _ => 0))), (t_bucket, .inl (ct_bucket, 512, .inl (fun _ => 0))), (qr, .inr (8, fr)), (qh, .inr (12, fsH)), (q2, .inl (c2, 6000, .inl (fun _ => 0))), (q7, .inl (c7, 12002, .inl (fun _ => 0))), (q8, .inl (c8, 12002, .inl (fun _ => 0))), (q9, .inl (c9, 12002, .inl (fun _ => 0))), (q10, .inl (c10, 12002, .inl (fun _ => 0)))] := hD
      refine lv_icmp_eq (tgt := 494) hx hb dL_law_414 (by decide) (fun _ => ?_) (fun h => absurd rfl h)
      refine lv_iinc (v := 6) (lv' := [(4, .int 6), (3, .ref qo), (2, .ref o2), (1, .ref o1), (0, .ref b)]) hx hb dL_law_494 hl (k := 0) rfl (by decide) (by decide) rfl (fun ls hl => ?_)
      refine lv_goto (tgt := 23) hx hb dL_law_497 (by decide) ?_
      refine lv_iload hx hb dL_law_23 (lv_at hl 0 rfl) ?_
      refine lv_aload_n hx hb dL_law_25 rfl (lv_at hl 4 rfl) ?_
      refine va_slen hx hb hX hbl hbA hS dL_law_26 ?_
      refine lv_bipush (v := 6) hx hb dL_law_27 (by decide) ?_
      refine lv_isub hx hb dL_law_29 ?_
      refine lv_icmp_gt (tgt := 500) hx hb dL_law_30 (by decide) (fun _ => ?_) (fun h => absurd (by decide) h)
      refine lv_iconst (v := 1) hx hb dL_law_500 (by decide) ?_
      refine va_forget hS.2.2 ?_
      refine W.widen (k := 600002) (n := 7302232) (Nat.le_of_ble_eq_true rfl) (Nat.le_of_ble_eq_true rfl) ?_
      exact lw_ret hx hb hr hlocks dL_law_501
    · refine lv_tableIn (tgt := 419) hx hb dL_law_40 (by decide) (by decide) rfl (by decide) ?_
      refine lv_aload_n hx hb dL_law_419 rfl (lv_at hl 3 rfl) ?_
      refine lv_aload_n hx hb dL_law_420 rfl (lv_at hl 4 rfl) ?_
      refine lv_iload hx hb dL_law_421 (lv_at hl 0 rfl) ?_
      refine lv_iconst (v := 1) hx hb dL_law_423 (by decide) ?_
      refine lv_iadd hx hb dL_law_424 ?_
      refine k_i (v := 1) (by decide) ?_
      refine va_sld hx hb hX hbl hbA hS (by unfold vp_in; decide) dL_law_425 ?_
      refine k_i (v := xs 1) (congrArg xs (by decide)) ?_
      have hPc := hP.sub (ws' := [(o1, .inr (11, fx)), (qm, .inr (3, fm))]) [0, 12] rfl
      have hDc := hD.sub (ws' := [(o1, .inr (11, fx)), (qm, .inr (3, fm))]) [0, 12] (by decide) rfl
      have hKc := hK.sub (tys' := []) [] rfl
      have hFc := va_free (wc := [(o1, .inr (11, fx)), (qm, .inr (3, fm))]) hD hS hA [0, 12] rfl
      refine va_calli (va_runV (As := [.int (xs 1)]) (rest := []) ⟨hx, hb, hml, hown, hts⟩ (c_MeetingHouse_cell l dC dI o1 H.size fx fm qm (xs 1)) (cwV 1 hts (gV (y := yX11_cell) _ 617 618 619 440 408 rfl rfl rfl rfl rfl) rfl rfl rfl (by decide +kernel) ⟨Nat.le_of_ble_eq_true rfl, Nat.le_of_ble_eq_true rfl⟩) ⟨fun a U g mk q => by obtain ⟨q0, q1, qJ, qM, qP, qK, qD⟩ := q; exact ⟨q0, q1, qJ, qM, qP, va_K.moved (u := U) (U := U.calling g mk a) (Vm.Alike.refl U.vm) qK, qD⟩, va_recv hKc hPc (ci := 11) (q0 := 0) rfl rfl, fun U hU hW => ⟨rfl, by rw [hU], kJ_sub hJ (by simp), kJ_sub hM (by simp), by rw [hU]; exact hPc, va_K.moved hW.alike hKc, hDc.weaken (fun _ _ _ _ => trivial)⟩⟩ rfl rfl hl.1 rfl (lv_room (Nat.le_of_ble_eq_true rfl)) dL_law_426 ⟨Nat.le_of_ble_eq_true rfl, Nat.le_of_ble_eq_true rfl⟩) hS (fun q _ h => hFc q h) hFc (fun r u t H1 locs ht hvm hw hB hz1 hk1 hS => ?_)
      subst hw
      obtain ⟨hP, hD⟩ := va_join (wr := [(qt, .inr (7, ft)), (t_tape, .inl (ct_tape, 6000, .inl (fun _ => 0))), (t_kind, .inl (ct_kind, 6010, .inl (fun _ => 0))), (t_value, .inl (ct_value, 6010, .inl (fun _ => 0))), (t_line, .inl (ct_line, 6010, .inl (fun _ => 0))), (t_blanks, .inl (ct_blanks, 6010, .inl (fun _ => 0))), (t_letters, .inl (ct_letters, 6400, .inl (fun _ => 0))), (t_nameFrom, .inl (ct_nameFrom, 3150, .inl (fun _ => 0))), (t_nameNext, .inl (ct_nameNext, 3150, .inl (fun _ => 0))), (t_bucket, .inl (ct_bucket, 512, .inl (fun _ => 0))), (qr, .inr (8, fr)), (o2, .inr (13, fs)), (qh, .inr (12, fsH)), (q2, .inl (c2, 6000, .inl (fun _ => 0))), (q7, .inl (c7, 12002, .inl (fun _ => 0))), (q8, .inl (c8, 12002, .inl (fun _ => 0))), (q9, .inl (c9, 12002, .inl (fun _ => 0))), (q10, .inl (c10, 12002, .inl (fun _ => 0)))]) (w1 := []) hP hD [0, 12] [1, 2, 3, 4, 5, 6, 7, 8, 9, 10, 11, 13, 14, 15, 16, 17, 18, 19] rfl rfl (by decide) (by decide) hk1 hFc (va_P_nil (H := H1)) va_D_nil
      have hK := hK.sub (tys' := [(ct_tape, .byte), (ct_kind, .int), (ct_value, .int), (ct_line, .int), (ct_blanks, .int), (ct_letters, .byte), (ct_nameFrom, .int), (ct_nameNext, .int), (ct_bucket, .int), (c2, .int), (c7, .int), (c8, .int), (c9, .int), (c10, .int)]) [0, 1, 2, 3, 4, 5, 6, 7, 8, 9, 10, 11, 12, 13] rfl
      clear hPc hDc hKc hFc hk1 hz1 ht hB
      generalize H1 = H at hP hS ⊢
      have hP : va_P (dC, dI) vwCl [(qt, .inr (7, ft)), (t_tape, .inl (ct_tape, 6000, .inl (fun _ => 0))), (t_kind, .inl (ct_kind, 6010, .inl (fun _ => 0))), (t_value, .inl (ct_value, 6010, .inl (fun _ => 0))), (t_line, .inl (ct_line, 6010, .inl (fun _ => 0))), (t_blanks, .inl (ct_blanks, 6010, .inl (fun _ => 0))), (t_letters, .inl (ct_letters, 6400, .inl (fun _ => 0))), (t_nameFrom, .inl (ct_nameFrom, 3150, .inl (fun _ => 0))), (t_nameNext, .inl (ct_nameNext, 3150, .inl (fun _ => 0))), (t_bucket, .inl (ct_bucket, 512, .inl (fun _ => 0))), (qr, .inr (8, fr)), (o2, .inr (13, fs)), (qh, .inr (12, fsH)), (q2, .inl (c2, 6000, .inl (fun _ => 0))), (q7, .inl (c7, 12002, .inl (fun _ => 0))), (q8, .inl (c8, 12002, .inl (fun _ => 0))), (q9, .inl (c9, 12002, .inl (fun _ => 0))), (q10, .inl (c10, 12002, .inl (fun _ => 0)))] H := hP
      have hD : va_D (fun q : Nat => s.heap.size ≤ q) [(qt, .inr (7, ft)), (t_tape, .inl (ct_tape, 6000, .inl (fun _ => 0))), (t_kind, .inl (ct_kind, 6010, .inl (fun _ => 0))), (t_value, .inl (ct_value, 6010, .inl (fun _ => 0))), (t_line, .inl (ct_line, 6010, .inl (fun _ => 0))), (t_blanks, .inl (ct_blanks, 6010, .inl (fun _ => 0))), (t_letters, .inl (ct_letters, 6400, .inl (fun _ => 0))), (t_nameFrom, .inl (ct_nameFrom, 3150, .inl (fun _ => 0))), (t_nameNext, .inl (ct_nameNext, 3150, .inl (fun _ => 0))), (t_bucket, .inl (ct_bucket, 512, .inl (fun _ => 0))), (qr, .inr (8, fr)), (o2, .inr (13, fs)), (qh, .inr (12, fsH)), (q2, .inl (c2, 6000, .inl (fun _ => 0))), (q7, .inl (c7, 12002, .inl (fun _ => 0))), (q8, .inl (c8, 12002, .inl (fun _ => 0))), (q9, .inl (c9, 12002, .inl (fun _ => 0))), (q10, .inl (c10, 12002, .inl (fun _ => 0)))] := hD
      refine lv_aload_n hx hb dL_law_429 rfl (lv_at hl 2 rfl) ?_
      refine lv_aload_n hx hb dL_law_430 rfl (lv_at hl 4 rfl) ?_
      refine lv_iload hx hb dL_law_431 (lv_at hl 0 rfl) ?_
      refine lv_iconst (v := 1) hx hb dL_law_433 (by decide) ?_
      refine lv_iadd hx hb dL_law_434 ?_
      refine k_i (v := 1) (by decide) ?_
      refine va_sld hx hb hX hbl hbA hS (by unfold vp_in; decide) dL_law_435 ?_
      refine k_i (v := xs 1) (congrArg xs (by decide)) ?_
      have hPc := hP.sub (ws' := [(o2, .inr (13, fs))]) [11] rfl
      have hDc := hD.sub (ws' := [(o2, .inr (13, fs))]) [11] (by decide) rfl
      have hKc := hK.sub (tys' := []) [] rfl
      have hFc := va_free (wc := [(o2, .inr (13, fs))]) hD hS hA [11] rfl
      refine va_calli (va_runV (As := [.int (xs 1)]) (rest := [.int 0]) ⟨hx, hb, hml, hown, hts⟩ (c_M_cell l dC dI o2 H.size fs (xs 1)) (cwV 1 hts (gV (y := yX13_cell) _ 620 621 622 149 152 rfl rfl rfl rfl rfl) rfl rfl rfl (by decide +kernel) ⟨Nat.le_of_ble_eq_true rfl, Nat.le_of_ble_eq_true rfl⟩) ⟨fun a U g mk q => by obtain ⟨q0, q1, qJ, qP, qK, qD⟩ := q; exact ⟨q0, q1, qJ, qP, va_K.moved (u := U) (U := U.calling g mk a) (Vm.Alike.refl U.vm) qK, qD⟩, va_recv hKc hPc (ci := 13) (q0 := 0) rfl rfl, fun U hU hW => ⟨rfl, by rw [hU], kJ_sub hMJ (by simp [mL]), by rw [hU]; exact hPc, va_K.moved hW.alike hKc, hDc.weaken (fun _ _ _ _ => trivial)⟩⟩ rfl rfl hl.1 rfl (lv_room (Nat.le_of_ble_eq_true rfl)) dL_law_436 ⟨Nat.le_of_ble_eq_true rfl, Nat.le_of_ble_eq_true rfl⟩) hS (fun q _ h => hFc q h) hFc (fun r u t H1 locs ht hvm hw hB hz1 hk1 hS => ?_)
      subst hw
      obtain ⟨hP, hD⟩ := va_join (wr := [(qt, .inr (7, ft)), (t_tape, .inl (ct_tape, 6000, .inl (fun _ => 0))), (t_kind, .inl (ct_kind, 6010, .inl (fun _ => 0))), (t_value, .inl (ct_value, 6010, .inl (fun _ => 0))), (t_line, .inl (ct_line, 6010, .inl (fun _ => 0))), (t_blanks, .inl (ct_blanks, 6010, .inl (fun _ => 0))), (t_letters, .inl (ct_letters, 6400, .inl (fun _ => 0))), (t_nameFrom, .inl (ct_nameFrom, 3150, .inl (fun _ => 0))), (t_nameNext, .inl (ct_nameNext, 3150, .inl (fun _ => 0))), (t_bucket, .inl (ct_bucket, 512, .inl (fun _ => 0))), (qr, .inr (8, fr)), (qh, .inr (12, fsH)), (q2, .inl (c2, 6000, .inl (fun _ => 0))), (q7, .inl (c7, 12002, .inl (fun _ => 0))), (q8, .inl (c8, 12002, .inl (fun _ => 0))), (q9, .inl (c9, 12002, .inl (fun _ => 0))), (q10, .inl (c10, 12002, .inl (fun _ => 0)))]) (w1 := []) hP hD [11] [0, 1, 2, 3, 4, 5, 6, 7, 8, 9, 10, 12, 13, 14, 15, 16, 17] rfl rfl (by decide) (by decide) hk1 hFc (va_P_nil (H := H1)) va_D_nil
      have hK := hK.sub (tys' := [(ct_tape, .byte), (ct_kind, .int), (ct_value, .int), (ct_line, .int), (ct_blanks, .int), (ct_letters, .byte), (ct_nameFrom, .int), (ct_nameNext, .int), (ct_bucket, .int), (c2, .int), (c7, .int), (c8, .int), (c9, .int), (c10, .int)]) [0, 1, 2, 3, 4, 5, 6, 7, 8, 9, 10, 11, 12, 13] rfl
      clear hPc hDc hKc hFc hk1 hz1 ht hB
      generalize H1 = H at hP hS ⊢
      have hP : va_P (dC, dI) vwCl [(qt, .inr (7, ft)), (t_tape, .inl (ct_tape, 6000, .inl (fun _ => 0))), (t_kind, .inl (ct_kind, 6010, .inl (fun _ => 0))), (t_value, .inl (ct_value, 6010, .inl (fun _ => 0))), (t_line, .inl (ct_line, 6010, .inl (fun _ => 0))), (t_blanks, .inl (ct_blanks, 6010, .inl (fun _ => 0))), (t_letters, .inl (ct_letters, 6400, .inl (fun _ => 0))), (t_nameFrom, .inl (ct_nameFrom, 3150, .inl (fun _ => 0))), (t_nameNext, .inl (ct_nameNext, 3150, .inl (fun _ => 0))), (t_bucket, .inl (ct_bucket, 512, .inl (fun _ => 0))), (qr, .inr (8, fr)), (qh, .inr (12, fsH)), (q2, .inl (c2, 6000, .inl (fun _ => 0))), (q7, .inl (c7, 12002, .inl (fun _ => 0))), (q8, .inl (c8, 12002, .inl (fun _ => 0))), (q9, .inl (c9, 12002, .inl (fun _ => 0))), (q10, .inl (c10, 12002, .inl (fun _ => 0)))] H := hP
      have hD : va_D (fun q : Nat => s.heap.size ≤ q) [(qt, .inr (7, ft)), (t_tape, .inl (ct_tape, 6000, .inl (fun _ => 0))), (t_kind, .inl (ct_kind, 6010, .inl (fun _ => 0))), (t_value, .inl (ct_value, 6010, .inl (fun _ => 0))), (t_line, .inl (ct_line, 6010, .inl (fun _ => 0))), (t_blanks, .inl (ct_blanks, 6010, .inl (fun _ => 0))), (t_letters, .inl (ct_letters, 6400, .inl (fun _ => 0))), (t_nameFrom, .inl (ct_nameFrom, 3150, .inl (fun _ => 0))), (t_nameNext, .inl (ct_nameNext, 3150, .inl (fun _ => 0))), (t_bucket, .inl (ct_bucket, 512, .inl (fun _ => 0))), (qr, .inr (8, fr)), (qh, .inr (12, fsH)), (q2, .inl (c2, 6000, .inl (fun _ => 0))), (q7, .inl (c7, 12002, .inl (fun _ => 0))), (q8, .inl (c8, 12002, .inl (fun _ => 0))), (q9, .inl (c9, 12002, .inl (fun _ => 0))), (q10, .inl (c10, 12002, .inl (fun _ => 0)))] := hD
      refine lv_icmp_eq (tgt := 494) hx hb dL_law_439 (by decide) (fun _ => ?_) (fun h => absurd rfl h)
      refine lv_iinc (v := 6) (lv' := [(4, .int 6), (3, .ref qo), (2, .ref o2), (1, .ref o1), (0, .ref b)]) hx hb dL_law_494 hl (k := 0) rfl (by decide) (by decide) rfl (fun ls hl => ?_)
      refine lv_goto (tgt := 23) hx hb dL_law_497 (by decide) ?_
      refine lv_iload hx hb dL_law_23 (lv_at hl 0 rfl) ?_
      refine lv_aload_n hx hb dL_law_25 rfl (lv_at hl 4 rfl) ?_
      refine va_slen hx hb hX hbl hbA hS dL_law_26 ?_
      refine lv_bipush (v := 6) hx hb dL_law_27 (by decide) ?_
      refine lv_isub hx hb dL_law_29 ?_
      refine lv_icmp_gt (tgt := 500) hx hb dL_law_30 (by decide) (fun _ => ?_) (fun h => absurd (by decide) h)
      refine lv_iconst (v := 1) hx hb dL_law_500 (by decide) ?_
      refine va_forget hS.2.2 ?_
      refine W.widen (k := 600002) (n := 7302232) (Nat.le_of_ble_eq_true rfl) (Nat.le_of_ble_eq_true rfl) ?_
      exact lw_ret hx hb hr hlocks dL_law_501
    · refine lv_tableIn (tgt := 444) hx hb dL_law_40 (by decide) (by decide) rfl (by decide) ?_
      refine lv_aload_n hx hb dL_law_444 rfl (lv_at hl 3 rfl) ?_
      refine lv_aload_n hx hb dL_law_445 rfl (lv_at hl 4 rfl) ?_
      refine lv_iload hx hb dL_law_446 (lv_at hl 0 rfl) ?_
      refine lv_iconst (v := 1) hx hb dL_law_448 (by decide) ?_
      refine lv_iadd hx hb dL_law_449 ?_
      refine k_i (v := 1) (by decide) ?_
      refine va_sld hx hb hX hbl hbA hS (by unfold vp_in; decide) dL_law_450 ?_
      refine k_i (v := xs 1) (congrArg xs (by decide)) ?_
      refine lv_aload_n hx hb dL_law_451 rfl (lv_at hl 4 rfl) ?_
      refine lv_iload hx hb dL_law_452 (lv_at hl 0 rfl) ?_
      refine lv_iconst (v := 2) hx hb dL_law_454 (by decide) ?_
      refine lv_iadd hx hb dL_law_455 ?_
      refine k_i (v := 2) (by decide) ?_
      refine va_sld hx hb hX hbl hbA hS (by unfold vp_in; decide) dL_law_456 ?_
      refine k_i (v := xs 2) (congrArg xs (by decide)) ?_
      have hPc := hP.sub (ws' := [(o1, .inr (11, fx)), (qm, .inr (3, fm))]) [0, 12] rfl
      have hDc := hD.sub (ws' := [(o1, .inr (11, fx)), (qm, .inr (3, fm))]) [0, 12] (by decide) rfl
      have hKc := hK.sub (tys' := []) [] rfl
      have hFc := va_free (wc := [(o1, .inr (11, fx)), (qm, .inr (3, fm))]) hD hS hA [0, 12] rfl
      refine va_calli (va_runV (As := [.int (xs 1), .int (xs 2)]) (rest := []) ⟨hx, hb, hml, hown, hts⟩ (c_MeetingHouse_meeting l dC dI o1 H.size fx fm qm (xs 1) (xs 2)) (cwV 2 hts (gV (y := yX11_meeting) _ 623 624 625 440 412 rfl rfl rfl rfl rfl) rfl rfl rfl (by decide +kernel) ⟨Nat.le_of_ble_eq_true rfl, Nat.le_of_ble_eq_true rfl⟩) ⟨fun a U g mk q => by obtain ⟨q0, q1, qJ, qM, qP, qK, qD⟩ := q; exact ⟨q0, q1, qJ, qM, qP, va_K.moved (u := U) (U := U.calling g mk a) (Vm.Alike.refl U.vm) qK, qD⟩, va_recv hKc hPc (ci := 11) (q0 := 0) rfl rfl, fun U hU hW => ⟨rfl, by rw [hU], kJ_sub hJ (by simp), kJ_sub hM (by simp), by rw [hU]; exact hPc, va_K.moved hW.alike hKc, hDc.weaken (fun _ _ _ _ => trivial)⟩⟩ rfl rfl hl.1 rfl (lv_room (Nat.le_of_ble_eq_true rfl)) dL_law_457 ⟨Nat.le_of_ble_eq_true rfl, Nat.le_of_ble_eq_true rfl⟩) hS (fun q _ h => hFc q h) hFc (fun r u t H1 locs ht hvm hw hB hz1 hk1 hS => ?_)
      subst hw
      obtain ⟨hP, hD⟩ := va_join (wr := [(qt, .inr (7, ft)), (t_tape, .inl (ct_tape, 6000, .inl (fun _ => 0))), (t_kind, .inl (ct_kind, 6010, .inl (fun _ => 0))), (t_value, .inl (ct_value, 6010, .inl (fun _ => 0))), (t_line, .inl (ct_line, 6010, .inl (fun _ => 0))), (t_blanks, .inl (ct_blanks, 6010, .inl (fun _ => 0))), (t_letters, .inl (ct_letters, 6400, .inl (fun _ => 0))), (t_nameFrom, .inl (ct_nameFrom, 3150, .inl (fun _ => 0))), (t_nameNext, .inl (ct_nameNext, 3150, .inl (fun _ => 0))), (t_bucket, .inl (ct_bucket, 512, .inl (fun _ => 0))), (qr, .inr (8, fr)), (o2, .inr (13, fs)), (qh, .inr (12, fsH)), (q2, .inl (c2, 6000, .inl (fun _ => 0))), (q7, .inl (c7, 12002, .inl (fun _ => 0))), (q8, .inl (c8, 12002, .inl (fun _ => 0))), (q9, .inl (c9, 12002, .inl (fun _ => 0))), (q10, .inl (c10, 12002, .inl (fun _ => 0)))]) (w1 := []) hP hD [0, 12] [1, 2, 3, 4, 5, 6, 7, 8, 9, 10, 11, 13, 14, 15, 16, 17, 18, 19] rfl rfl (by decide) (by decide) hk1 hFc (va_P_nil (H := H1)) va_D_nil
      have hK := hK.sub (tys' := [(ct_tape, .byte), (ct_kind, .int), (ct_value, .int), (ct_line, .int), (ct_blanks, .int), (ct_letters, .byte), (ct_nameFrom, .int), (ct_nameNext, .int), (ct_bucket, .int), (c2, .int), (c7, .int), (c8, .int), (c9, .int), (c10, .int)]) [0, 1, 2, 3, 4, 5, 6, 7, 8, 9, 10, 11, 12, 13] rfl
      clear hPc hDc hKc hFc hk1 hz1 ht hB
      generalize H1 = H at hP hS ⊢
      have hP : va_P (dC, dI) vwCl [(qt, .inr (7, ft)), (t_tape, .inl (ct_tape, 6000, .inl (fun _ => 0))), (t_kind, .inl (ct_kind, 6010, .inl (fun _ => 0))), (t_value, .inl (ct_value, 6010, .inl (fun _ => 0))), (t_line, .inl (ct_line, 6010, .inl (fun _ => 0))), (t_blanks, .inl (ct_blanks, 6010, .inl (fun _ => 0))), (t_letters, .inl (ct_letters, 6400, .inl (fun _ => 0))), (t_nameFrom, .inl (ct_nameFrom, 3150, .inl (fun _ => 0))), (t_nameNext, .inl (ct_nameNext, 3150, .inl (fun _ => 0))), (t_bucket, .inl (ct_bucket, 512, .inl (fun _ => 0))), (qr, .inr (8, fr)), (o2, .inr (13, fs)), (qh, .inr (12, fsH)), (q2, .inl (c2, 6000, .inl (fun _ => 0))), (q7, .inl (c7, 12002, .inl (fun _ => 0))), (q8, .inl (c8, 12002, .inl (fun _ => 0))), (q9, .inl (c9, 12002, .inl (fun _ => 0))), (q10, .inl (c10, 12002, .inl (fun _ => 0)))] H := hP
      have hD : va_D (fun q : Nat => s.heap.size ≤ q) [(qt, .inr (7, ft)), (t_tape, .inl (ct_tape, 6000, .inl (fun _ => 0))), (t_kind, .inl (ct_kind, 6010, .inl (fun _ => 0))), (t_value, .inl (ct_value, 6010, .inl (fun _ => 0))), (t_line, .inl (ct_line, 6010, .inl (fun _ => 0))), (t_blanks, .inl (ct_blanks, 6010, .inl (fun _ => 0))), (t_letters, .inl (ct_letters, 6400, .inl (fun _ => 0))), (t_nameFrom, .inl (ct_nameFrom, 3150, .inl (fun _ => 0))), (t_nameNext, .inl (ct_nameNext, 3150, .inl (fun _ => 0))), (t_bucket, .inl (ct_bucket, 512, .inl (fun _ => 0))), (qr, .inr (8, fr)), (o2, .inr (13, fs)), (qh, .inr (12, fsH)), (q2, .inl (c2, 6000, .inl (fun _ => 0))), (q7, .inl (c7, 12002, .inl (fun _ => 0))), (q8, .inl (c8, 12002, .inl (fun _ => 0))), (q9, .inl (c9, 12002, .inl (fun _ => 0))), (q10, .inl (c10, 12002, .inl (fun _ => 0)))] := hD
      refine lv_aload_n hx hb dL_law_460 rfl (lv_at hl 2 rfl) ?_
      refine lv_aload_n hx hb dL_law_461 rfl (lv_at hl 4 rfl) ?_
      refine lv_iload hx hb dL_law_462 (lv_at hl 0 rfl) ?_
      refine lv_iconst (v := 1) hx hb dL_law_464 (by decide) ?_
      refine lv_iadd hx hb dL_law_465 ?_
      refine k_i (v := 1) (by decide) ?_
      refine va_sld hx hb hX hbl hbA hS (by unfold vp_in; decide) dL_law_466 ?_
      refine k_i (v := xs 1) (congrArg xs (by decide)) ?_
      refine lv_aload_n hx hb dL_law_467 rfl (lv_at hl 4 rfl) ?_
      refine lv_iload hx hb dL_law_468 (lv_at hl 0 rfl) ?_
      refine lv_iconst (v := 2) hx hb dL_law_470 (by decide) ?_
      refine lv_iadd hx hb dL_law_471 ?_
      refine k_i (v := 2) (by decide) ?_
      refine va_sld hx hb hX hbl hbA hS (by unfold vp_in; decide) dL_law_472 ?_
      refine k_i (v := xs 2) (congrArg xs (by decide)) ?_
      have hPc := hP.sub (ws' := [(o2, .inr (13, fs))]) [11] rfl
      have hDc := hD.sub (ws' := [(o2, .inr (13, fs))]) [11] (by decide) rfl
      have hKc := hK.sub (tys' := []) [] rfl
      have hFc := va_free (wc := [(o2, .inr (13, fs))]) hD hS hA [11] rfl
      refine va_calli (va_runV (As := [.int (xs 1), .int (xs 2)]) (rest := [.int ((-1))]) ⟨hx, hb, hml, hown, hts⟩ (c_M_meeting l dC dI o2 H.size fs (xs 1) (xs 2)) (cwV 2 hts (gV (y := yX13_meeting) _ 626 627 628 149 153 rfl rfl rfl rfl rfl) rfl rfl rfl (by decide +kernel) ⟨Nat.le_of_ble_eq_true rfl, Nat.le_of_ble_eq_true rfl⟩) ⟨fun a U g mk q => by obtain ⟨q0, q1, qJ, qP, qK, qD⟩ := q; exact ⟨q0, q1, qJ, qP, va_K.moved (u := U) (U := U.calling g mk a) (Vm.Alike.refl U.vm) qK, qD⟩, va_recv hKc hPc (ci := 13) (q0 := 0) rfl rfl, fun U hU hW => ⟨rfl, by rw [hU], kJ_sub hMJ (by simp [mL]), by rw [hU]; exact hPc, va_K.moved hW.alike hKc, hDc.weaken (fun _ _ _ _ => trivial)⟩⟩ rfl rfl hl.1 rfl (lv_room (Nat.le_of_ble_eq_true rfl)) dL_law_473 ⟨Nat.le_of_ble_eq_true rfl, Nat.le_of_ble_eq_true rfl⟩) hS (fun q _ h => hFc q h) hFc (fun r u t H1 locs ht hvm hw hB hz1 hk1 hS => ?_)
      subst hw
      obtain ⟨hP, hD⟩ := va_join (wr := [(qt, .inr (7, ft)), (t_tape, .inl (ct_tape, 6000, .inl (fun _ => 0))), (t_kind, .inl (ct_kind, 6010, .inl (fun _ => 0))), (t_value, .inl (ct_value, 6010, .inl (fun _ => 0))), (t_line, .inl (ct_line, 6010, .inl (fun _ => 0))), (t_blanks, .inl (ct_blanks, 6010, .inl (fun _ => 0))), (t_letters, .inl (ct_letters, 6400, .inl (fun _ => 0))), (t_nameFrom, .inl (ct_nameFrom, 3150, .inl (fun _ => 0))), (t_nameNext, .inl (ct_nameNext, 3150, .inl (fun _ => 0))), (t_bucket, .inl (ct_bucket, 512, .inl (fun _ => 0))), (qr, .inr (8, fr)), (qh, .inr (12, fsH)), (q2, .inl (c2, 6000, .inl (fun _ => 0))), (q7, .inl (c7, 12002, .inl (fun _ => 0))), (q8, .inl (c8, 12002, .inl (fun _ => 0))), (q9, .inl (c9, 12002, .inl (fun _ => 0))), (q10, .inl (c10, 12002, .inl (fun _ => 0)))]) (w1 := []) hP hD [11] [0, 1, 2, 3, 4, 5, 6, 7, 8, 9, 10, 12, 13, 14, 15, 16, 17] rfl rfl (by decide) (by decide) hk1 hFc (va_P_nil (H := H1)) va_D_nil
      have hK := hK.sub (tys' := [(ct_tape, .byte), (ct_kind, .int), (ct_value, .int), (ct_line, .int), (ct_blanks, .int), (ct_letters, .byte), (ct_nameFrom, .int), (ct_nameNext, .int), (ct_bucket, .int), (c2, .int), (c7, .int), (c8, .int), (c9, .int), (c10, .int)]) [0, 1, 2, 3, 4, 5, 6, 7, 8, 9, 10, 11, 12, 13] rfl
      clear hPc hDc hKc hFc hk1 hz1 ht hB
      generalize H1 = H at hP hS ⊢
      have hP : va_P (dC, dI) vwCl [(qt, .inr (7, ft)), (t_tape, .inl (ct_tape, 6000, .inl (fun _ => 0))), (t_kind, .inl (ct_kind, 6010, .inl (fun _ => 0))), (t_value, .inl (ct_value, 6010, .inl (fun _ => 0))), (t_line, .inl (ct_line, 6010, .inl (fun _ => 0))), (t_blanks, .inl (ct_blanks, 6010, .inl (fun _ => 0))), (t_letters, .inl (ct_letters, 6400, .inl (fun _ => 0))), (t_nameFrom, .inl (ct_nameFrom, 3150, .inl (fun _ => 0))), (t_nameNext, .inl (ct_nameNext, 3150, .inl (fun _ => 0))), (t_bucket, .inl (ct_bucket, 512, .inl (fun _ => 0))), (qr, .inr (8, fr)), (qh, .inr (12, fsH)), (q2, .inl (c2, 6000, .inl (fun _ => 0))), (q7, .inl (c7, 12002, .inl (fun _ => 0))), (q8, .inl (c8, 12002, .inl (fun _ => 0))), (q9, .inl (c9, 12002, .inl (fun _ => 0))), (q10, .inl (c10, 12002, .inl (fun _ => 0)))] H := hP
      have hD : va_D (fun q : Nat => s.heap.size ≤ q) [(qt, .inr (7, ft)), (t_tape, .inl (ct_tape, 6000, .inl (fun _ => 0))), (t_kind, .inl (ct_kind, 6010, .inl (fun _ => 0))), (t_value, .inl (ct_value, 6010, .inl (fun _ => 0))), (t_line, .inl (ct_line, 6010, .inl (fun _ => 0))), (t_blanks, .inl (ct_blanks, 6010, .inl (fun _ => 0))), (t_letters, .inl (ct_letters, 6400, .inl (fun _ => 0))), (t_nameFrom, .inl (ct_nameFrom, 3150, .inl (fun _ => 0))), (t_nameNext, .inl (ct_nameNext, 3150, .inl (fun _ => 0))), (t_bucket, .inl (ct_bucket, 512, .inl (fun _ => 0))), (qr, .inr (8, fr)), (qh, .inr (12, fsH)), (q2, .inl (c2, 6000, .inl (fun _ => 0))), (q7, .inl (c7, 12002, .inl (fun _ => 0))), (q8, .inl (c8, 12002, .inl (fun _ => 0))), (q9, .inl (c9, 12002, .inl (fun _ => 0))), (q10, .inl (c10, 12002, .inl (fun _ => 0)))] := hD
      refine lv_icmp_eq (tgt := 494) hx hb dL_law_476 (by decide) (fun _ => ?_) (fun h => absurd rfl h)
      refine lv_iinc (v := 6) (lv' := [(4, .int 6), (3, .ref qo), (2, .ref o2), (1, .ref o1), (0, .ref b)]) hx hb dL_law_494 hl (k := 0) rfl (by decide) (by decide) rfl (fun ls hl => ?_)
      refine lv_goto (tgt := 23) hx hb dL_law_497 (by decide) ?_
      refine lv_iload hx hb dL_law_23 (lv_at hl 0 rfl) ?_
      refine lv_aload_n hx hb dL_law_25 rfl (lv_at hl 4 rfl) ?_
      refine va_slen hx hb hX hbl hbA hS dL_law_26 ?_
      refine lv_bipush (v := 6) hx hb dL_law_27 (by decide) ?_
      refine lv_isub hx hb dL_law_29 ?_
      refine lv_icmp_gt (tgt := 500) hx hb dL_law_30 (by decide) (fun _ => ?_) (fun h => absurd (by decide) h)
      refine lv_iconst (v := 1) hx hb dL_law_500 (by decide) ?_
      refine va_forget hS.2.2 ?_
      refine W.widen (k := 600002) (n := 7302232) (Nat.le_of_ble_eq_true rfl) (Nat.le_of_ble_eq_true rfl) ?_
      exact lw_ret hx hb hr hlocks dL_law_501
    · refine lv_tableIn (tgt := 481) hx hb dL_law_40 (by decide) (by decide) rfl (by decide) ?_
      refine lv_aload_n hx hb dL_law_481 rfl (lv_at hl 3 rfl) ?_
      have hPc := hP.sub (ws' := [(o1, .inr (11, fx))]) [0] rfl
      have hDc := hD.sub (ws' := [(o1, .inr (11, fx))]) [0] (by decide) rfl
      have hKc := hK.sub (tys' := []) [] rfl
      have hFc := va_free (wc := [(o1, .inr (11, fx))]) hD hS hA [0] rfl
      refine va_calli (va_runV (As := []) (rest := []) ⟨hx, hb, hml, hown, hts⟩ (c_MeetingHouse_clashes l dC dI o1 H.size fx) (cwV 0 hts (gV (y := yX11_clashes) _ 629 630 631 440 416 rfl rfl rfl rfl rfl) rfl rfl rfl (by decide +kernel) ⟨Nat.le_of_ble_eq_true rfl, Nat.le_of_ble_eq_true rfl⟩) ⟨fun a U g mk q => by obtain ⟨q0, q1, qJ, qP, qK, qD⟩ := q; exact ⟨q0, q1, qJ, qP, va_K.moved (u := U) (U := U.calling g mk a) (Vm.Alike.refl U.vm) qK, qD⟩, va_recv hKc hPc (ci := 11) (q0 := 0) rfl rfl, fun U hU hW => ⟨rfl, by rw [hU], trivial, by rw [hU]; exact hPc, va_K.moved hW.alike hKc, hDc.weaken (fun _ _ _ _ => trivial)⟩⟩ rfl rfl hl.1 rfl (lv_room (Nat.le_of_ble_eq_true rfl)) dL_law_482 ⟨Nat.le_of_ble_eq_true rfl, Nat.le_of_ble_eq_true rfl⟩) hS (fun q _ h => hFc q h) hFc (fun r u t H1 locs ht hvm hw hB hz1 hk1 hS => ?_)
      subst hw
      obtain ⟨hP, hD⟩ := va_join (wr := [(qt, .inr (7, ft)), (t_tape, .inl (ct_tape, 6000, .inl (fun _ => 0))), (t_kind, .inl (ct_kind, 6010, .inl (fun _ => 0))), (t_value, .inl (ct_value, 6010, .inl (fun _ => 0))), (t_line, .inl (ct_line, 6010, .inl (fun _ => 0))), (t_blanks, .inl (ct_blanks, 6010, .inl (fun _ => 0))), (t_letters, .inl (ct_letters, 6400, .inl (fun _ => 0))), (t_nameFrom, .inl (ct_nameFrom, 3150, .inl (fun _ => 0))), (t_nameNext, .inl (ct_nameNext, 3150, .inl (fun _ => 0))), (t_bucket, .inl (ct_bucket, 512, .inl (fun _ => 0))), (qr, .inr (8, fr)), (qm, .inr (3, fm)), (o2, .inr (13, fs)), (qh, .inr (12, fsH)), (q2, .inl (c2, 6000, .inl (fun _ => 0))), (q7, .inl (c7, 12002, .inl (fun _ => 0))), (q8, .inl (c8, 12002, .inl (fun _ => 0))), (q9, .inl (c9, 12002, .inl (fun _ => 0))), (q10, .inl (c10, 12002, .inl (fun _ => 0)))]) (w1 := []) hP hD [0] [1, 2, 3, 4, 5, 6, 7, 8, 9, 10, 11, 12, 13, 14, 15, 16, 17, 18, 19] rfl rfl (by decide) (by decide) hk1 hFc (va_P_nil (H := H1)) va_D_nil
      have hK := hK.sub (tys' := [(ct_tape, .byte), (ct_kind, .int), (ct_value, .int), (ct_line, .int), (ct_blanks, .int), (ct_letters, .byte), (ct_nameFrom, .int), (ct_nameNext, .int), (ct_bucket, .int), (c2, .int), (c7, .int), (c8, .int), (c9, .int), (c10, .int)]) [0, 1, 2, 3, 4, 5, 6, 7, 8, 9, 10, 11, 12, 13] rfl
      clear hPc hDc hKc hFc hk1 hz1 ht hB
      generalize H1 = H at hP hS ⊢
      have hP : va_P (dC, dI) vwCl [(qt, .inr (7, ft)), (t_tape, .inl (ct_tape, 6000, .inl (fun _ => 0))), (t_kind, .inl (ct_kind, 6010, .inl (fun _ => 0))), (t_value, .inl (ct_value, 6010, .inl (fun _ => 0))), (t_line, .inl (ct_line, 6010, .inl (fun _ => 0))), (t_blanks, .inl (ct_blanks, 6010, .inl (fun _ => 0))), (t_letters, .inl (ct_letters, 6400, .inl (fun _ => 0))), (t_nameFrom, .inl (ct_nameFrom, 3150, .inl (fun _ => 0))), (t_nameNext, .inl (ct_nameNext, 3150, .inl (fun _ => 0))), (t_bucket, .inl (ct_bucket, 512, .inl (fun _ => 0))), (qr, .inr (8, fr)), (qm, .inr (3, fm)), (o2, .inr (13, fs)), (qh, .inr (12, fsH)), (q2, .inl (c2, 6000, .inl (fun _ => 0))), (q7, .inl (c7, 12002, .inl (fun _ => 0))), (q8, .inl (c8, 12002, .inl (fun _ => 0))), (q9, .inl (c9, 12002, .inl (fun _ => 0))), (q10, .inl (c10, 12002, .inl (fun _ => 0)))] H := hP
      have hD : va_D (fun q : Nat => s.heap.size ≤ q) [(qt, .inr (7, ft)), (t_tape, .inl (ct_tape, 6000, .inl (fun _ => 0))), (t_kind, .inl (ct_kind, 6010, .inl (fun _ => 0))), (t_value, .inl (ct_value, 6010, .inl (fun _ => 0))), (t_line, .inl (ct_line, 6010, .inl (fun _ => 0))), (t_blanks, .inl (ct_blanks, 6010, .inl (fun _ => 0))), (t_letters, .inl (ct_letters, 6400, .inl (fun _ => 0))), (t_nameFrom, .inl (ct_nameFrom, 3150, .inl (fun _ => 0))), (t_nameNext, .inl (ct_nameNext, 3150, .inl (fun _ => 0))), (t_bucket, .inl (ct_bucket, 512, .inl (fun _ => 0))), (qr, .inr (8, fr)), (qm, .inr (3, fm)), (o2, .inr (13, fs)), (qh, .inr (12, fsH)), (q2, .inl (c2, 6000, .inl (fun _ => 0))), (q7, .inl (c7, 12002, .inl (fun _ => 0))), (q8, .inl (c8, 12002, .inl (fun _ => 0))), (q9, .inl (c9, 12002, .inl (fun _ => 0))), (q10, .inl (c10, 12002, .inl (fun _ => 0)))] := hD
      refine lv_aload_n hx hb dL_law_485 rfl (lv_at hl 2 rfl) ?_
      have hPc := hP.sub (ws' := [(o2, .inr (13, fs))]) [12] rfl
      have hDc := hD.sub (ws' := [(o2, .inr (13, fs))]) [12] (by decide) rfl
      have hKc := hK.sub (tys' := []) [] rfl
      have hFc := va_free (wc := [(o2, .inr (13, fs))]) hD hS hA [12] rfl
      refine va_calli (va_runV (As := []) (rest := [.int 0]) ⟨hx, hb, hml, hown, hts⟩ (c_M_clashes l dC dI o2 H.size fs) (cwV 0 hts (gV (y := yX13_clashes) _ 632 633 634 149 154 rfl rfl rfl rfl rfl) rfl rfl rfl (by decide +kernel) ⟨Nat.le_of_ble_eq_true rfl, Nat.le_of_ble_eq_true rfl⟩) ⟨fun a U g mk q => by obtain ⟨q0, q1, qJ, qP, qK, qD⟩ := q; exact ⟨q0, q1, qJ, qP, va_K.moved (u := U) (U := U.calling g mk a) (Vm.Alike.refl U.vm) qK, qD⟩, va_recv hKc hPc (ci := 13) (q0 := 0) rfl rfl, fun U hU hW => ⟨rfl, by rw [hU], kJ_sub hMJ (by simp [mL]), by rw [hU]; exact hPc, va_K.moved hW.alike hKc, hDc.weaken (fun _ _ _ _ => trivial)⟩⟩ rfl rfl hl.1 rfl (lv_room (Nat.le_of_ble_eq_true rfl)) dL_law_486 ⟨Nat.le_of_ble_eq_true rfl, Nat.le_of_ble_eq_true rfl⟩) hS (fun q _ h => hFc q h) hFc (fun r u t H1 locs ht hvm hw hB hz1 hk1 hS => ?_)
      subst hw
      obtain ⟨hP, hD⟩ := va_join (wr := [(qt, .inr (7, ft)), (t_tape, .inl (ct_tape, 6000, .inl (fun _ => 0))), (t_kind, .inl (ct_kind, 6010, .inl (fun _ => 0))), (t_value, .inl (ct_value, 6010, .inl (fun _ => 0))), (t_line, .inl (ct_line, 6010, .inl (fun _ => 0))), (t_blanks, .inl (ct_blanks, 6010, .inl (fun _ => 0))), (t_letters, .inl (ct_letters, 6400, .inl (fun _ => 0))), (t_nameFrom, .inl (ct_nameFrom, 3150, .inl (fun _ => 0))), (t_nameNext, .inl (ct_nameNext, 3150, .inl (fun _ => 0))), (t_bucket, .inl (ct_bucket, 512, .inl (fun _ => 0))), (qr, .inr (8, fr)), (qm, .inr (3, fm)), (qh, .inr (12, fsH)), (q2, .inl (c2, 6000, .inl (fun _ => 0))), (q7, .inl (c7, 12002, .inl (fun _ => 0))), (q8, .inl (c8, 12002, .inl (fun _ => 0))), (q9, .inl (c9, 12002, .inl (fun _ => 0))), (q10, .inl (c10, 12002, .inl (fun _ => 0)))]) (w1 := []) hP hD [12] [0, 1, 2, 3, 4, 5, 6, 7, 8, 9, 10, 11, 13, 14, 15, 16, 17, 18] rfl rfl (by decide) (by decide) hk1 hFc (va_P_nil (H := H1)) va_D_nil
      have hK := hK.sub (tys' := [(ct_tape, .byte), (ct_kind, .int), (ct_value, .int), (ct_line, .int), (ct_blanks, .int), (ct_letters, .byte), (ct_nameFrom, .int), (ct_nameNext, .int), (ct_bucket, .int), (c2, .int), (c7, .int), (c8, .int), (c9, .int), (c10, .int)]) [0, 1, 2, 3, 4, 5, 6, 7, 8, 9, 10, 11, 12, 13] rfl
      clear hPc hDc hKc hFc hk1 hz1 ht hB
      generalize H1 = H at hP hS ⊢
      have hP : va_P (dC, dI) vwCl [(qt, .inr (7, ft)), (t_tape, .inl (ct_tape, 6000, .inl (fun _ => 0))), (t_kind, .inl (ct_kind, 6010, .inl (fun _ => 0))), (t_value, .inl (ct_value, 6010, .inl (fun _ => 0))), (t_line, .inl (ct_line, 6010, .inl (fun _ => 0))), (t_blanks, .inl (ct_blanks, 6010, .inl (fun _ => 0))), (t_letters, .inl (ct_letters, 6400, .inl (fun _ => 0))), (t_nameFrom, .inl (ct_nameFrom, 3150, .inl (fun _ => 0))), (t_nameNext, .inl (ct_nameNext, 3150, .inl (fun _ => 0))), (t_bucket, .inl (ct_bucket, 512, .inl (fun _ => 0))), (qr, .inr (8, fr)), (qm, .inr (3, fm)), (qh, .inr (12, fsH)), (q2, .inl (c2, 6000, .inl (fun _ => 0))), (q7, .inl (c7, 12002, .inl (fun _ => 0))), (q8, .inl (c8, 12002, .inl (fun _ => 0))), (q9, .inl (c9, 12002, .inl (fun _ => 0))), (q10, .inl (c10, 12002, .inl (fun _ => 0)))] H := hP
      have hD : va_D (fun q : Nat => s.heap.size ≤ q) [(qt, .inr (7, ft)), (t_tape, .inl (ct_tape, 6000, .inl (fun _ => 0))), (t_kind, .inl (ct_kind, 6010, .inl (fun _ => 0))), (t_value, .inl (ct_value, 6010, .inl (fun _ => 0))), (t_line, .inl (ct_line, 6010, .inl (fun _ => 0))), (t_blanks, .inl (ct_blanks, 6010, .inl (fun _ => 0))), (t_letters, .inl (ct_letters, 6400, .inl (fun _ => 0))), (t_nameFrom, .inl (ct_nameFrom, 3150, .inl (fun _ => 0))), (t_nameNext, .inl (ct_nameNext, 3150, .inl (fun _ => 0))), (t_bucket, .inl (ct_bucket, 512, .inl (fun _ => 0))), (qr, .inr (8, fr)), (qm, .inr (3, fm)), (qh, .inr (12, fsH)), (q2, .inl (c2, 6000, .inl (fun _ => 0))), (q7, .inl (c7, 12002, .inl (fun _ => 0))), (q8, .inl (c8, 12002, .inl (fun _ => 0))), (q9, .inl (c9, 12002, .inl (fun _ => 0))), (q10, .inl (c10, 12002, .inl (fun _ => 0)))] := hD
      refine lv_icmp_eq (tgt := 494) hx hb dL_law_489 (by decide) (fun _ => ?_) (fun h => absurd rfl h)
      refine lv_iinc (v := 6) (lv' := [(4, .int 6), (3, .ref qo), (2, .ref o2), (1, .ref o1), (0, .ref b)]) hx hb dL_law_494 hl (k := 0) rfl (by decide) (by decide) rfl (fun ls hl => ?_)
      refine lv_goto (tgt := 23) hx hb dL_law_497 (by decide) ?_
      refine lv_iload hx hb dL_law_23 (lv_at hl 0 rfl) ?_
      refine lv_aload_n hx hb dL_law_25 rfl (lv_at hl 4 rfl) ?_
      refine va_slen hx hb hX hbl hbA hS dL_law_26 ?_
      refine lv_bipush (v := 6) hx hb dL_law_27 (by decide) ?_
      refine lv_isub hx hb dL_law_29 ?_
      refine lv_icmp_gt (tgt := 500) hx hb dL_law_30 (by decide) (fun _ => ?_) (fun h => absurd (by decide) h)
      refine lv_iconst (v := 1) hx hb dL_law_500 (by decide) ?_
      refine va_forget hS.2.2 ?_
      refine W.widen (k := 600002) (n := 7302232) (Nat.le_of_ble_eq_true rfl) (Nat.le_of_ble_eq_true rfl) ?_
      exact lw_ret hx hb hr hlocks dL_law_501
    · refine lv_tableOut (tgt := 494) hx hb dL_law_40 (by decide) (by decide) ?_
      refine lv_iinc (v := 6) (lv' := [(4, .int 6), (3, .ref qo), (2, .ref o2), (1, .ref o1), (0, .ref b)]) hx hb dL_law_494 hl (k := 0) rfl (by decide) (by decide) rfl (fun ls hl => ?_)
      refine lv_goto (tgt := 23) hx hb dL_law_497 (by decide) ?_
      refine lv_iload hx hb dL_law_23 (lv_at hl 0 rfl) ?_
      refine lv_aload_n hx hb dL_law_25 rfl (lv_at hl 4 rfl) ?_
      refine va_slen hx hb hX hbl hbA hS dL_law_26 ?_
      refine lv_bipush (v := 6) hx hb dL_law_27 (by decide) ?_
      refine lv_isub hx hb dL_law_29 ?_
      refine lv_icmp_gt (tgt := 500) hx hb dL_law_30 (by decide) (fun _ => ?_) (fun h => absurd (by decide) h)
      refine lv_iconst (v := 1) hx hb dL_law_500 (by decide) ?_
      refine va_forget hS.2.2 ?_
      refine W.widen (k := 600002) (n := 7302232) (Nat.le_of_ble_eq_true rfl) (Nat.le_of_ble_eq_true rfl) ?_
      exact lw_ret hx hb hr hlocks dL_law_501
    · refine lv_tableOut (tgt := 494) hx hb dL_law_40 (by decide) (by decide) ?_
      refine lv_iinc (v := 6) (lv' := [(4, .int 6), (3, .ref qo), (2, .ref o2), (1, .ref o1), (0, .ref b)]) hx hb dL_law_494 hl (k := 0) rfl (by decide) (by decide) rfl (fun ls hl => ?_)
      refine lv_goto (tgt := 23) hx hb dL_law_497 (by decide) ?_
      refine lv_iload hx hb dL_law_23 (lv_at hl 0 rfl) ?_
      refine lv_aload_n hx hb dL_law_25 rfl (lv_at hl 4 rfl) ?_
      refine va_slen hx hb hX hbl hbA hS dL_law_26 ?_
      refine lv_bipush (v := 6) hx hb dL_law_27 (by decide) ?_
      refine lv_isub hx hb dL_law_29 ?_
      refine lv_icmp_gt (tgt := 500) hx hb dL_law_30 (by decide) (fun _ => ?_) (fun h => absurd (by decide) h)
      refine lv_iconst (v := 1) hx hb dL_law_500 (by decide) ?_
      refine va_forget hS.2.2 ?_
      refine W.widen (k := 600002) (n := 7302232) (Nat.le_of_ble_eq_true rfl) (Nat.le_of_ble_eq_true rfl) ?_
      exact lw_ret hx hb hr hlocks dL_law_501
    · refine lv_tableOut (tgt := 494) hx hb dL_law_40 (by decide) (by decide) ?_
      refine lv_iinc (v := 6) (lv' := [(4, .int 6), (3, .ref qo), (2, .ref o2), (1, .ref o1), (0, .ref b)]) hx hb dL_law_494 hl (k := 0) rfl (by decide) (by decide) rfl (fun ls hl => ?_)
      refine lv_goto (tgt := 23) hx hb dL_law_497 (by decide) ?_
      refine lv_iload hx hb dL_law_23 (lv_at hl 0 rfl) ?_
      refine lv_aload_n hx hb dL_law_25 rfl (lv_at hl 4 rfl) ?_
      refine va_slen hx hb hX hbl hbA hS dL_law_26 ?_
      refine lv_bipush (v := 6) hx hb dL_law_27 (by decide) ?_
      refine lv_isub hx hb dL_law_29 ?_
      refine lv_icmp_gt (tgt := 500) hx hb dL_law_30 (by decide) (fun _ => ?_) (fun h => absurd (by decide) h)
      refine lv_iconst (v := 1) hx hb dL_law_500 (by decide) ?_
      refine va_forget hS.2.2 ?_
      refine W.widen (k := 600002) (n := 7302232) (Nat.le_of_ble_eq_true rfl) (Nat.le_of_ble_eq_true rfl) ?_
      exact lw_ret hx hb hr hlocks dL_law_501
    · refine lv_tableOut (tgt := 494) hx hb dL_law_40 (by decide) (by decide) ?_
      refine lv_iinc (v := 6) (lv' := [(4, .int 6), (3, .ref qo), (2, .ref o2), (1, .ref o1), (0, .ref b)]) hx hb dL_law_494 hl (k := 0) rfl (by decide) (by decide) rfl (fun ls hl => ?_)
      refine lv_goto (tgt := 23) hx hb dL_law_497 (by decide) ?_
      refine lv_iload hx hb dL_law_23 (lv_at hl 0 rfl) ?_
      refine lv_aload_n hx hb dL_law_25 rfl (lv_at hl 4 rfl) ?_
      refine va_slen hx hb hX hbl hbA hS dL_law_26 ?_
      refine lv_bipush (v := 6) hx hb dL_law_27 (by decide) ?_
      refine lv_isub hx hb dL_law_29 ?_
      refine lv_icmp_gt (tgt := 500) hx hb dL_law_30 (by decide) (fun _ => ?_) (fun h => absurd (by decide) h)
      refine lv_iconst (v := 1) hx hb dL_law_500 (by decide) ?_
      refine va_forget hS.2.2 ?_
      refine W.widen (k := 600002) (n := 7302232) (Nat.le_of_ble_eq_true rfl) (Nat.le_of_ble_eq_true rfl) ?_
      exact lw_ret hx hb hr hlocks dL_law_501
  · refine lv_icmp_gt (tgt := 500) hx hb dL_law_30 (by decide) (fun _ => ?_) (fun h => absurd (k_sub6 (by omega)) h)
    refine lv_iconst (v := 1) hx hb dL_law_500 (by decide) ?_
    refine va_forget hS.2.2 ?_
    refine W.widen (k := 600002) (n := 7302232) (Nat.le_of_ble_eq_true rfl) (Nat.le_of_ble_eq_true rfl) ?_
    exact lw_ret hx hb hr hlocks dL_law_501
