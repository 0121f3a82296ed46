
theorem dX13_init_0 : decode cX13_init 0 = .ok (.aload_n 0, 1) := by decide +kernel
theorem dX13_init_1 : decode cX13_init 1 = .ok (.invokespecial 1, 3) := by decide +kernel
theorem dX13_init_4 : decode cX13_init 4 = .ok (.aload_n 0, 1) := by decide +kernel
theorem dX13_init_5 : decode cX13_init 5 = .ok (.new 7, 3) := by decide +kernel
theorem dX13_init_8 : decode cX13_init 8 = .ok (.dup, 1) := by decide +kernel
theorem dX13_init_9 : decode cX13_init 9 = .ok (.invokespecial 9, 3) := by decide +kernel
theorem dX13_init_12 : decode cX13_init 12 = .ok (.putfield 10, 3) := by decide +kernel
theorem dX13_init_15 : decode cX13_init 15 = .ok (.aload_n 0, 1) := by decide +kernel
theorem dX13_init_16 : decode cX13_init 16 = .ok (.sipush 6000, 3) := by decide +kernel
theorem dX13_init_19 : decode cX13_init 19 = .ok (.newarray .int, 2) := by decide +kernel
theorem dX13_init_21 : decode cX13_init 21 = .ok (.putfield 16, 3) := by decide +kernel
theorem dX13_init_24 : decode cX13_init 24 = .ok (.aload_n 0, 1) := by decide +kernel
theorem dX13_init_25 : decode cX13_init 25 = .ok (.bipush 36, 2) := by decide +kernel
theorem dX13_init_27 : decode cX13_init 27 = .ok (.anewarray 20, 3) := by decide +kernel
theorem dX13_init_30 : decode cX13_init 30 = .ok (.dup, 1) := by decide +kernel
theorem dX13_init_31 : decode cX13_init 31 = .ok (.iconst 0, 1) := by decide +kernel
theorem dX13_init_32 : decode cX13_init 32 = .ok (.ldc 22, 2) := by decide +kernel
theorem dX13_init_34 : decode cX13_init 34 = .ok (.aastore, 1) := by decide +kernel
theorem dX13_init_35 : decode cX13_init 35 = .ok (.dup, 1) := by decide +kernel
theorem dX13_init_36 : decode cX13_init 36 = .ok (.iconst 1, 1) := by decide +kernel
theorem dX13_init_37 : decode cX13_init 37 = .ok (.ldc 24, 2) := by decide +kernel
theorem dX13_init_39 : decode cX13_init 39 = .ok (.aastore, 1) := by decide +kernel
theorem dX13_init_40 : decode cX13_init 40 = .ok (.dup, 1) := by decide +kernel
theorem dX13_init_41 : decode cX13_init 41 = .ok (.iconst 2, 1) := by decide +kernel
theorem dX13_init_42 : decode cX13_init 42 = .ok (.ldc 26, 2) := by decide +kernel
theorem dX13_init_44 : decode cX13_init 44 = .ok (.aastore, 1) := by decide +kernel
theorem dX13_init_45 : decode cX13_init 45 = .ok (.dup, 1) := by decide +kernel
theorem dX13_init_46 : decode cX13_init 46 = .ok (.iconst 3, 1) := by decide +kernel
theorem dX13_init_47 : decode cX13_init 47 = .ok (.ldc 28, 2) := by decide +kernel
theorem dX13_init_49 : decode cX13_init 49 = .ok (.aastore, 1) := by decide +kernel
theorem dX13_init_50 : decode cX13_init 50 = .ok (.dup, 1) := by decide +kernel
theorem dX13_init_51 : decode cX13_init 51 = .ok (.iconst 4, 1) := by decide +kernel
theorem dX13_init_52 : decode cX13_init 52 = .ok (.ldc 30, 2) := by decide +kernel
theorem dX13_init_54 : decode cX13_init 54 = .ok (.aastore, 1) := by decide +kernel
theorem dX13_init_55 : decode cX13_init 55 = .ok (.dup, 1) := by decide +kernel
theorem dX13_init_56 : decode cX13_init 56 = .ok (.iconst 5, 1) := by decide +kernel
theorem dX13_init_57 : decode cX13_init 57 = .ok (.ldc 32, 2) := by decide +kernel
theorem dX13_init_59 : decode cX13_init 59 = .ok (.aastore, 1) := by decide +kernel
theorem dX13_init_60 : decode cX13_init 60 = .ok (.dup, 1) := by decide +kernel
theorem dX13_init_61 : decode cX13_init 61 = .ok (.bipush 6, 2) := by decide +kernel
theorem dX13_init_63 : decode cX13_init 63 = .ok (.ldc 34, 2) := by decide +kernel
theorem dX13_init_65 : decode cX13_init 65 = .ok (.aastore, 1) := by decide +kernel
theorem dX13_init_66 : decode cX13_init 66 = .ok (.dup, 1) := by decide +kernel
theorem dX13_init_67 : decode cX13_init 67 = .ok (.bipush 7, 2) := by decide +kernel
theorem dX13_init_69 : decode cX13_init 69 = .ok (.ldc 36, 2) := by decide +kernel
theorem dX13_init_71 : decode cX13_init 71 = .ok (.aastore, 1) := by decide +kernel
theorem dX13_init_72 : decode cX13_init 72 = .ok (.dup, 1) := by decide +kernel
theorem dX13_init_73 : decode cX13_init 73 = .ok (.bipush 8, 2) := by decide +kernel
theorem dX13_init_75 : decode cX13_init 75 = .ok (.ldc 38, 2) := by decide +kernel
theorem dX13_init_77 : decode cX13_init 77 = .ok (.aastore, 1) := by decide +kernel
theorem dX13_init_78 : decode cX13_init 78 = .ok (.dup, 1) := by decide +kernel
theorem dX13_init_79 : decode cX13_init 79 = .ok (.bipush 9, 2) := by decide +kernel
theorem dX13_init_81 : decode cX13_init 81 = .ok (.ldc 40, 2) := by decide +kernel
theorem dX13_init_83 : decode cX13_init 83 = .ok (.aastore, 1) := by decide +kernel
theorem dX13_init_84 : decode cX13_init 84 = .ok (.dup, 1) := by decide +kernel
theorem dX13_init_85 : decode cX13_init 85 = .ok (.bipush 10, 2) := by decide +kernel
theorem dX13_init_87 : decode cX13_init 87 = .ok (.ldc 42, 2) := by decide +kernel
theorem dX13_init_89 : decode cX13_init 89 = .ok (.aastore, 1) := by decide +kernel
theorem dX13_init_90 : decode cX13_init 90 = .ok (.dup, 1) := by decide +kernel
theorem dX13_init_91 : decode cX13_init 91 = .ok (.bipush 11, 2) := by decide +kernel
theorem dX13_init_93 : decode cX13_init 93 = .ok (.ldc 44, 2) := by decide +kernel
theorem dX13_init_95 : decode cX13_init 95 = .ok (.aastore, 1) := by decide +kernel
theorem dX13_init_96 : decode cX13_init 96 = .ok (.dup, 1) := by decide +kernel
theorem dX13_init_97 : decode cX13_init 97 = .ok (.bipush 12, 2) := by decide +kernel
theorem dX13_init_99 : decode cX13_init 99 = .ok (.ldc 46, 2) := by decide +kernel
theorem dX13_init_101 : decode cX13_init 101 = .ok (.aastore, 1) := by decide +kernel
theorem dX13_init_102 : decode cX13_init 102 = .ok (.dup, 1) := by decide +kernel
theorem dX13_init_103 : decode cX13_init 103 = .ok (.bipush 13, 2) := by decide +kernel
theorem dX13_init_105 : decode cX13_init 105 = .ok (.ldc 48, 2) := by decide +kernel
theorem dX13_init_107 : decode cX13_init 107 = .ok (.aastore, 1) := by decide +kernel
theorem dX13_init_108 : decode cX13_init 108 = .ok (.dup, 1) := by decide +kernel
theorem dX13_init_109 : decode cX13_init 109 = .ok (.bipush 14, 2) := by decide +kernel
theorem dX13_init_111 : decode cX13_init 111 = .ok (.ldc 50, 2) := by decide +kernel
theorem dX13_init_113 : decode cX13_init 113 = .ok (.aastore, 1) := by decide +kernel
theorem dX13_init_114 : decode cX13_init 114 = .ok (.dup, 1) := by decide +kernel
theorem dX13_init_115 : decode cX13_init 115 = .ok (.bipush 15, 2) := by decide +kernel
theorem dX13_init_117 : decode cX13_init 117 = .ok (.ldc 52, 2) := by decide +kernel
theorem dX13_init_119 : decode cX13_init 119 = .ok (.aastore, 1) := by decide +kernel
theorem dX13_init_120 : decode cX13_init 120 = .ok (.dup, 1) := by decide +kernel
theorem dX13_init_121 : decode cX13_init 121 = .ok (.bipush 16, 2) := by decide +kernel
theorem dX13_init_123 : decode cX13_init 123 = .ok (.ldc 54, 2) := by decide +kernel
theorem dX13_init_125 : decode cX13_init 125 = .ok (.aastore, 1) := by decide +kernel
theorem dX13_init_126 : decode cX13_init 126 = .ok (.dup, 1) := by decide +kernel
theorem dX13_init_127 : decode cX13_init 127 = .ok (.bipush 17, 2) := by decide +kernel
theorem dX13_init_129 : decode cX13_init 129 = .ok (.ldc 56, 2) := by decide +kernel
theorem dX13_init_131 : decode cX13_init 131 = .ok (.aastore, 1) := by decide +kernel
theorem dX13_init_132 : decode cX13_init 132 = .ok (.dup, 1) := by decide +kernel
theorem dX13_init_133 : decode cX13_init 133 = .ok (.bipush 18, 2) := by decide +kernel
theorem dX13_init_135 : decode cX13_init 135 = .ok (.ldc 58, 2) := by decide +kernel
theorem dX13_init_137 : decode cX13_init 137 = .ok (.aastore, 1) := by decide +kernel
theorem dX13_init_138 : decode cX13_init 138 = .ok (.dup, 1) := by decide +kernel
theorem dX13_init_139 : decode cX13_init 139 = .ok (.bipush 19, 2) := by decide +kernel
theorem dX13_init_141 : decode cX13_init 141 = .ok (.ldc 60, 2) := by decide +kernel
theorem dX13_init_143 : decode cX13_init 143 = .ok (.aastore, 1) := by decide +kernel
theorem dX13_init_144 : decode cX13_init 144 = .ok (.dup, 1) := by decide +kernel
theorem dX13_init_145 : decode cX13_init 145 = .ok (.bipush 20, 2) := by decide +kernel
theorem dX13_init_147 : decode cX13_init 147 = .ok (.ldc 62, 2) := by decide +kernel
theorem dX13_init_149 : decode cX13_init 149 = .ok (.aastore, 1) := by decide +kernel
theorem dX13_init_150 : decode cX13_init 150 = .ok (.dup, 1) := by decide +kernel
theorem dX13_init_151 : decode cX13_init 151 = .ok (.bipush 21, 2) := by decide +kernel
theorem dX13_init_153 : decode cX13_init 153 = .ok (.ldc 64, 2) := by decide +kernel
theorem dX13_init_155 : decode cX13_init 155 = .ok (.aastore, 1) := by decide +kernel
theorem dX13_init_156 : decode cX13_init 156 = .ok (.dup, 1) := by decide +kernel
theorem dX13_init_157 : decode cX13_init 157 = .ok (.bipush 22, 2) := by decide +kernel
theorem dX13_init_159 : decode cX13_init 159 = .ok (.ldc 66, 2) := by decide +kernel
theorem dX13_init_161 : decode cX13_init 161 = .ok (.aastore, 1) := by decide +kernel
theorem dX13_init_162 : decode cX13_init 162 = .ok (.dup, 1) := by decide +kernel
theorem dX13_init_163 : decode cX13_init 163 = .ok (.bipush 23, 2) := by decide +kernel
theorem dX13_init_165 : decode cX13_init 165 = .ok (.ldc 68, 2) := by decide +kernel
theorem dX13_init_167 : decode cX13_init 167 = .ok (.aastore, 1) := by decide +kernel
theorem dX13_init_168 : decode cX13_init 168 = .ok (.dup, 1) := by decide +kernel
theorem dX13_init_169 : decode cX13_init 169 = .ok (.bipush 24, 2) := by decide +kernel
theorem dX13_init_171 : decode cX13_init 171 = .ok (.ldc 70, 2) := by decide +kernel
theorem dX13_init_173 : decode cX13_init 173 = .ok (.aastore, 1) := by decide +kernel
theorem dX13_init_174 : decode cX13_init 174 = .ok (.dup, 1) := by decide +kernel
theorem dX13_init_175 : decode cX13_init 175 = .ok (.bipush 25, 2) := by decide +kernel
theorem dX13_init_177 : decode cX13_init 177 = .ok (.ldc 72, 2) := by decide +kernel
theorem dX13_init_179 : decode cX13_init 179 = .ok (.aastore, 1) := by decide +kernel
theorem dX13_init_180 : decode cX13_init 180 = .ok (.dup, 1) := by decide +kernel
theorem dX13_init_181 : decode cX13_init 181 = .ok (.bipush 26, 2) := by decide +kernel
theorem dX13_init_183 : decode cX13_init 183 = .ok (.ldc 74, 2) := by decide +kernel
theorem dX13_init_185 : decode cX13_init 185 = .ok (.aastore, 1) := by decide +kernel
theorem dX13_init_186 : decode cX13_init 186 = .ok (.dup, 1) := by decide +kernel
theorem dX13_init_187 : decode cX13_init 187 = .ok (.bipush 27, 2) := by decide +kernel
theorem dX13_init_189 : decode cX13_init 189 = .ok (.ldc 76, 2) := by decide +kernel
theorem dX13_init_191 : decode cX13_init 191 = .ok (.aastore, 1) := by decide +kernel
theorem dX13_init_192 : decode cX13_init 192 = .ok (.dup, 1) := by decide +kernel
theorem dX13_init_193 : decode cX13_init 193 = .ok (.bipush 28, 2) := by decide +kernel
theorem dX13_init_195 : decode cX13_init 195 = .ok (.ldc 78, 2) := by decide +kernel
theorem dX13_init_197 : decode cX13_init 197 = .ok (.aastore, 1) := by decide +kernel
theorem dX13_init_198 : decode cX13_init 198 = .ok (.dup, 1) := by decide +kernel
theorem dX13_init_199 : decode cX13_init 199 = .ok (.bipush 29, 2) := by decide +kernel
theorem dX13_init_201 : decode cX13_init 201 = .ok (.ldc 80, 2) := by decide +kernel
theorem dX13_init_203 : decode cX13_init 203 = .ok (.aastore, 1) := by decide +kernel
theorem dX13_init_204 : decode cX13_init 204 = .ok (.dup, 1) := by decide +kernel
theorem dX13_init_205 : decode cX13_init 205 = .ok (.bipush 30, 2) := by decide +kernel
theorem dX13_init_207 : decode cX13_init 207 = .ok (.ldc 82, 2) := by decide +kernel
theorem dX13_init_209 : decode cX13_init 209 = .ok (.aastore, 1) := by decide +kernel
theorem dX13_init_210 : decode cX13_init 210 = .ok (.dup, 1) := by decide +kernel
theorem dX13_init_211 : decode cX13_init 211 = .ok (.bipush 31, 2) := by decide +kernel
theorem dX13_init_213 : decode cX13_init 213 = .ok (.ldc 84, 2) := by decide +kernel
theorem dX13_init_215 : decode cX13_init 215 = .ok (.aastore, 1) := by decide +kernel
theorem dX13_init_216 : decode cX13_init 216 = .ok (.dup, 1) := by decide +kernel
theorem dX13_init_217 : decode cX13_init 217 = .ok (.bipush 32, 2) := by decide +kernel
theorem dX13_init_219 : decode cX13_init 219 = .ok (.ldc 86, 2) := by decide +kernel
theorem dX13_init_221 : decode cX13_init 221 = .ok (.aastore, 1) := by decide +kernel
theorem dX13_init_222 : decode cX13_init 222 = .ok (.dup, 1) := by decide +kernel
theorem dX13_init_223 : decode cX13_init 223 = .ok (.bipush 33, 2) := by decide +kernel
theorem dX13_init_225 : decode cX13_init 225 = .ok (.ldc 88, 2) := by decide +kernel
theorem dX13_init_227 : decode cX13_init 227 = .ok (.aastore, 1) := by decide +kernel
theorem dX13_init_228 : decode cX13_init 228 = .ok (.dup, 1) := by decide +kernel
theorem dX13_init_229 : decode cX13_init 229 = .ok (.bipush 34, 2) := by decide +kernel
theorem dX13_init_231 : decode cX13_init 231 = .ok (.ldc 90, 2) := by decide +kernel
theorem dX13_init_233 : decode cX13_init 233 = .ok (.aastore, 1) := by decide +kernel
theorem dX13_init_234 : decode cX13_init 234 = .ok (.dup, 1) := by decide +kernel
theorem dX13_init_235 : decode cX13_init 235 = .ok (.bipush 35, 2) := by decide +kernel
theorem dX13_init_237 : decode cX13_init 237 = .ok (.ldc 92, 2) := by decide +kernel
theorem dX13_init_239 : decode cX13_init 239 = .ok (.aastore, 1) := by decide +kernel
theorem dX13_init_240 : decode cX13_init 240 = .ok (.putfield 94, 3) := by decide +kernel
theorem dX13_init_243 : decode cX13_init 243 = .ok (.aload_n 0, 1) := by decide +kernel
theorem dX13_init_244 : decode cX13_init 244 = .ok (.bipush 28, 2) := by decide +kernel
theorem dX13_init_246 : decode cX13_init 246 = .ok (.anewarray 20, 3) := by decide +kernel
theorem dX13_init_249 : decode cX13_init 249 = .ok (.dup, 1) := by decide +kernel
theorem dX13_init_250 : decode cX13_init 250 = .ok (.iconst 0, 1) := by decide +kernel
theorem dX13_init_251 : decode cX13_init 251 = .ok (.ldc 98, 2) := by decide +kernel
theorem dX13_init_253 : decode cX13_init 253 = .ok (.aastore, 1) := by decide +kernel
theorem dX13_init_254 : decode cX13_init 254 = .ok (.dup, 1) := by decide +kernel
theorem dX13_init_255 : decode cX13_init 255 = .ok (.iconst 1, 1) := by decide +kernel
theorem dX13_init_256 : decode cX13_init 256 = .ok (.ldc 100, 2) := by decide +kernel
theorem dX13_init_258 : decode cX13_init 258 = .ok (.aastore, 1) := by decide +kernel
theorem dX13_init_259 : decode cX13_init 259 = .ok (.dup, 1) := by decide +kernel
theorem dX13_init_260 : decode cX13_init 260 = .ok (.iconst 2, 1) := by decide +kernel
theorem dX13_init_261 : decode cX13_init 261 = .ok (.ldc 102, 2) := by decide +kernel
theorem dX13_init_263 : decode cX13_init 263 = .ok (.aastore, 1) := by decide +kernel
theorem dX13_init_264 : decode cX13_init 264 = .ok (.dup, 1) := by decide +kernel
theorem dX13_init_265 : decode cX13_init 265 = .ok (.iconst 3, 1) := by decide +kernel
theorem dX13_init_266 : decode cX13_init 266 = .ok (.ldc 104, 2) := by decide +kernel
theorem dX13_init_268 : decode cX13_init 268 = .ok (.aastore, 1) := by decide +kernel
theorem dX13_init_269 : decode cX13_init 269 = .ok (.dup, 1) := by decide +kernel
theorem dX13_init_270 : decode cX13_init 270 = .ok (.iconst 4, 1) := by decide +kernel
theorem dX13_init_271 : decode cX13_init 271 = .ok (.ldc 106, 2) := by decide +kernel
theorem dX13_init_273 : decode cX13_init 273 = .ok (.aastore, 1) := by decide +kernel
theorem dX13_init_274 : decode cX13_init 274 = .ok (.dup, 1) := by decide +kernel
theorem dX13_init_275 : decode cX13_init 275 = .ok (.iconst 5, 1) := by decide +kernel
theorem dX13_init_276 : decode cX13_init 276 = .ok (.ldc 108, 2) := by decide +kernel
theorem dX13_init_278 : decode cX13_init 278 = .ok (.aastore, 1) := by decide +kernel
theorem dX13_init_279 : decode cX13_init 279 = .ok (.dup, 1) := by decide +kernel
theorem dX13_init_280 : decode cX13_init 280 = .ok (.bipush 6, 2) := by decide +kernel
theorem dX13_init_282 : decode cX13_init 282 = .ok (.ldc 110, 2) := by decide +kernel
theorem dX13_init_284 : decode cX13_init 284 = .ok (.aastore, 1) := by decide +kernel
theorem dX13_init_285 : decode cX13_init 285 = .ok (.dup, 1) := by decide +kernel
theorem dX13_init_286 : decode cX13_init 286 = .ok (.bipush 7, 2) := by decide +kernel
theorem dX13_init_288 : decode cX13_init 288 = .ok (.ldc 112, 2) := by decide +kernel
theorem dX13_init_290 : decode cX13_init 290 = .ok (.aastore, 1) := by decide +kernel
theorem dX13_init_291 : decode cX13_init 291 = .ok (.dup, 1) := by decide +kernel
theorem dX13_init_292 : decode cX13_init 292 = .ok (.bipush 8, 2) := by decide +kernel
theorem dX13_init_294 : decode cX13_init 294 = .ok (.ldc 114, 2) := by decide +kernel
theorem dX13_init_296 : decode cX13_init 296 = .ok (.aastore, 1) := by decide +kernel
theorem dX13_init_297 : decode cX13_init 297 = .ok (.dup, 1) := by decide +kernel
theorem dX13_init_298 : decode cX13_init 298 = .ok (.bipush 9, 2) := by decide +kernel
theorem dX13_init_300 : decode cX13_init 300 = .ok (.ldc 116, 2) := by decide +kernel
theorem dX13_init_302 : decode cX13_init 302 = .ok (.aastore, 1) := by decide +kernel
theorem dX13_init_303 : decode cX13_init 303 = .ok (.dup, 1) := by decide +kernel
theorem dX13_init_304 : decode cX13_init 304 = .ok (.bipush 10, 2) := by decide +kernel
theorem dX13_init_306 : decode cX13_init 306 = .ok (.ldc 118, 2) := by decide +kernel
theorem dX13_init_308 : decode cX13_init 308 = .ok (.aastore, 1) := by decide +kernel
theorem dX13_init_309 : decode cX13_init 309 = .ok (.dup, 1) := by decide +kernel
theorem dX13_init_310 : decode cX13_init 310 = .ok (.bipush 11, 2) := by decide +kernel
theorem dX13_init_312 : decode cX13_init 312 = .ok (.ldc 120, 2) := by decide +kernel
theorem dX13_init_314 : decode cX13_init 314 = .ok (.aastore, 1) := by decide +kernel
theorem dX13_init_315 : decode cX13_init 315 = .ok (.dup, 1) := by decide +kernel
theorem dX13_init_316 : decode cX13_init 316 = .ok (.bipush 12, 2) := by decide +kernel
theorem dX13_init_318 : decode cX13_init 318 = .ok (.ldc 122, 2) := by decide +kernel
theorem dX13_init_320 : decode cX13_init 320 = .ok (.aastore, 1) := by decide +kernel
theorem dX13_init_321 : decode cX13_init 321 = .ok (.dup, 1) := by decide +kernel
theorem dX13_init_322 : decode cX13_init 322 = .ok (.bipush 13, 2) := by decide +kernel
theorem dX13_init_324 : decode cX13_init 324 = .ok (.ldc 124, 2) := by decide +kernel
theorem dX13_init_326 : decode cX13_init 326 = .ok (.aastore, 1) := by decide +kernel
theorem dX13_init_327 : decode cX13_init 327 = .ok (.dup, 1) := by decide +kernel
theorem dX13_init_328 : decode cX13_init 328 = .ok (.bipush 14, 2) := by decide +kernel
theorem dX13_init_330 : decode cX13_init 330 = .ok (.ldc 126, 2) := by decide +kernel
theorem dX13_init_332 : decode cX13_init 332 = .ok (.aastore, 1) := by decide +kernel
theorem dX13_init_333 : decode cX13_init 333 = .ok (.dup, 1) := by decide +kernel
theorem dX13_init_334 : decode cX13_init 334 = .ok (.bipush 15, 2) := by decide +kernel
theorem dX13_init_336 : decode cX13_init 336 = .ok (.ldc 128, 2) := by decide +kernel
theorem dX13_init_338 : decode cX13_init 338 = .ok (.aastore, 1) := by decide +kernel
theorem dX13_init_339 : decode cX13_init 339 = .ok (.dup, 1) := by decide +kernel
theorem dX13_init_340 : decode cX13_init 340 = .ok (.bipush 16, 2) := by decide +kernel
theorem dX13_init_342 : decode cX13_init 342 = .ok (.ldc 130, 2) := by decide +kernel
theorem dX13_init_344 : decode cX13_init 344 = .ok (.aastore, 1) := by decide +kernel
theorem dX13_init_345 : decode cX13_init 345 = .ok (.dup, 1) := by decide +kernel
theorem dX13_init_346 : decode cX13_init 346 = .ok (.bipush 17, 2) := by decide +kernel
theorem dX13_init_348 : decode cX13_init 348 = .ok (.ldc 132, 2) := by decide +kernel
theorem dX13_init_350 : decode cX13_init 350 = .ok (.aastore, 1) := by decide +kernel
theorem dX13_init_351 : decode cX13_init 351 = .ok (.dup, 1) := by decide +kernel
theorem dX13_init_352 : decode cX13_init 352 = .ok (.bipush 18, 2) := by decide +kernel
theorem dX13_init_354 : decode cX13_init 354 = .ok (.ldc 134, 2) := by decide +kernel
theorem dX13_init_356 : decode cX13_init 356 = .ok (.aastore, 1) := by decide +kernel
theorem dX13_init_357 : decode cX13_init 357 = .ok (.dup, 1) := by decide +kernel
theorem dX13_init_358 : decode cX13_init 358 = .ok (.bipush 19, 2) := by decide +kernel
theorem dX13_init_360 : decode cX13_init 360 = .ok (.ldc 136, 2) := by decide +kernel
theorem dX13_init_362 : decode cX13_init 362 = .ok (.aastore, 1) := by decide +kernel
theorem dX13_init_363 : decode cX13_init 363 = .ok (.dup, 1) := by decide +kernel
theorem dX13_init_364 : decode cX13_init 364 = .ok (.bipush 20, 2) := by decide +kernel
theorem dX13_init_366 : decode cX13_init 366 = .ok (.ldc 138, 2) := by decide +kernel
theorem dX13_init_368 : decode cX13_init 368 = .ok (.aastore, 1) := by decide +kernel
theorem dX13_init_369 : decode cX13_init 369 = .ok (.dup, 1) := by decide +kernel
theorem dX13_init_370 : decode cX13_init 370 = .ok (.bipush 21, 2) := by decide +kernel
theorem dX13_init_372 : decode cX13_init 372 = .ok (.ldc 140, 2) := by decide +kernel
theorem dX13_init_374 : decode cX13_init 374 = .ok (.aastore, 1) := by decide +kernel
theorem dX13_init_375 : decode cX13_init 375 = .ok (.dup, 1) := by decide +kernel
theorem dX13_init_376 : decode cX13_init 376 = .ok (.bipush 22, 2) := by decide +kernel
theorem dX13_init_378 : decode cX13_init 378 = .ok (.ldc 142, 2) := by decide +kernel
theorem dX13_init_380 : decode cX13_init 380 = .ok (.aastore, 1) := by decide +kernel
theorem dX13_init_381 : decode cX13_init 381 = .ok (.dup, 1) := by decide +kernel
theorem dX13_init_382 : decode cX13_init 382 = .ok (.bipush 23, 2) := by decide +kernel
theorem dX13_init_384 : decode cX13_init 384 = .ok (.ldc 144, 2) := by decide +kernel
theorem dX13_init_386 : decode cX13_init 386 = .ok (.aastore, 1) := by decide +kernel
theorem dX13_init_387 : decode cX13_init 387 = .ok (.dup, 1) := by decide +kernel
theorem dX13_init_388 : decode cX13_init 388 = .ok (.bipush 24, 2) := by decide +kernel
theorem dX13_init_390 : decode cX13_init 390 = .ok (.ldc 146, 2) := by decide +kernel
theorem dX13_init_392 : decode cX13_init 392 = .ok (.aastore, 1) := by decide +kernel
theorem dX13_init_393 : decode cX13_init 393 = .ok (.dup, 1) := by decide +kernel
theorem dX13_init_394 : decode cX13_init 394 = .ok (.bipush 25, 2) := by decide +kernel
theorem dX13_init_396 : decode cX13_init 396 = .ok (.ldc 148, 2) := by decide +kernel
theorem dX13_init_398 : decode cX13_init 398 = .ok (.aastore, 1) := by decide +kernel
theorem dX13_init_399 : decode cX13_init 399 = .ok (.dup, 1) := by decide +kernel
theorem dX13_init_400 : decode cX13_init 400 = .ok (.bipush 26, 2) := by decide +kernel
theorem dX13_init_402 : decode cX13_init 402 = .ok (.ldc 150, 2) := by decide +kernel
theorem dX13_init_404 : decode cX13_init 404 = .ok (.aastore, 1) := by decide +kernel
theorem dX13_init_405 : decode cX13_init 405 = .ok (.dup, 1) := by decide +kernel
theorem dX13_init_406 : decode cX13_init 406 = .ok (.bipush 27, 2) := by decide +kernel
theorem dX13_init_408 : decode cX13_init 408 = .ok (.ldc 152, 2) := by decide +kernel
theorem dX13_init_410 : decode cX13_init 410 = .ok (.aastore, 1) := by decide +kernel
theorem dX13_init_411 : decode cX13_init 411 = .ok (.putfield 154, 3) := by decide +kernel
theorem dX13_init_414 : decode cX13_init 414 = .ok (.aload_n 0, 1) := by decide +kernel
theorem dX13_init_415 : decode cX13_init 415 = .ok (.sipush 12002, 3) := by decide +kernel
theorem dX13_init_418 : decode cX13_init 418 = .ok (.newarray .int, 2) := by decide +kernel
theorem dX13_init_420 : decode cX13_init 420 = .ok (.putfield 157, 3) := by decide +kernel
theorem dX13_init_423 : decode cX13_init 423 = .ok (.aload_n 0, 1) := by decide +kernel
theorem dX13_init_424 : decode cX13_init 424 = .ok (.sipush 12002, 3) := by decide +kernel
theorem dX13_init_427 : decode cX13_init 427 = .ok (.newarray .int, 2) := by decide +kernel
theorem dX13_init_429 : decode cX13_init 429 = .ok (.putfield 160, 3) := by decide +kernel
theorem dX13_init_432 : decode cX13_init 432 = .ok (.aload_n 0, 1) := by decide +kernel
theorem dX13_init_433 : decode cX13_init 433 = .ok (.sipush 12002, 3) := by decide +kernel
theorem dX13_init_436 : decode cX13_init 436 = .ok (.newarray .int, 2) := by decide +kernel
theorem dX13_init_438 : decode cX13_init 438 = .ok (.putfield 163, 3) := by decide +kernel
theorem dX13_init_441 : decode cX13_init 441 = .ok (.aload_n 0, 1) := by decide +kernel
theorem dX13_init_442 : decode cX13_init 442 = .ok (.sipush 12002, 3) := by decide +kernel
theorem dX13_init_445 : decode cX13_init 445 = .ok (.newarray .int, 2) := by decide +kernel
theorem dX13_init_447 : decode cX13_init 447 = .ok (.putfield 166, 3) := by decide +kernel
theorem dX13_init_450 : decode cX13_init 450 = .ok (.aload_n 0, 1) := by decide +kernel
theorem dX13_init_451 : decode cX13_init 451 = .ok (.sipush 6001, 3) := by decide +kernel
theorem dX13_init_454 : decode cX13_init 454 = .ok (.newarray .int, 2) := by decide +kernel
theorem dX13_init_456 : decode cX13_init 456 = .ok (.putfield 169, 3) := by decide +kernel
theorem dX13_init_459 : decode cX13_init 459 = .ok (.aload_n 0, 1) := by decide +kernel
theorem dX13_init_460 : decode cX13_init 460 = .ok (.sipush 6001, 3) := by decide +kernel
theorem dX13_init_463 : decode cX13_init 463 = .ok (.newarray .int, 2) := by decide +kernel
theorem dX13_init_465 : decode cX13_init 465 = .ok (.putfield 172, 3) := by decide +kernel
theorem dX13_init_468 : decode cX13_init 468 = .ok (.aload_n 0, 1) := by decide +kernel
theorem dX13_init_469 : decode cX13_init 469 = .ok (.sipush 6000, 3) := by decide +kernel
theorem dX13_init_472 : decode cX13_init 472 = .ok (.newarray .int, 2) := by decide +kernel
theorem dX13_init_474 : decode cX13_init 474 = .ok (.putfield 175, 3) := by decide +kernel
theorem dX13_init_477 : decode cX13_init 477 = .ok (.aload_n 0, 1) := by decide +kernel
theorem dX13_init_478 : decode cX13_init 478 = .ok (.sipush 3001, 3) := by decide +kernel
theorem dX13_init_481 : decode cX13_init 481 = .ok (.newarray .int, 2) := by decide +kernel
theorem dX13_init_483 : decode cX13_init 483 = .ok (.putfield 178, 3) := by decide +kernel
theorem dX13_init_486 : decode cX13_init 486 = .ok (.aload_n 0, 1) := by decide +kernel
theorem dX13_init_487 : decode cX13_init 487 = .ok (.sipush 3001, 3) := by decide +kernel
theorem dX13_init_490 : decode cX13_init 490 = .ok (.newarray .int, 2) := by decide +kernel
theorem dX13_init_492 : decode cX13_init 492 = .ok (.putfield 181, 3) := by decide +kernel
theorem dX13_init_495 : decode cX13_init 495 = .ok (.aload_n 0, 1) := by decide +kernel
theorem dX13_init_496 : decode cX13_init 496 = .ok (.sipush 6000, 3) := by decide +kernel
theorem dX13_init_499 : decode cX13_init 499 = .ok (.newarray .int, 2) := by decide +kernel
theorem dX13_init_501 : decode cX13_init 501 = .ok (.putfield 184, 3) := by decide +kernel
theorem dX13_init_504 : decode cX13_init 504 = .ok (.aload_n 0, 1) := by decide +kernel
theorem dX13_init_505 : decode cX13_init 505 = .ok (.sipush 14000, 3) := by decide +kernel
theorem dX13_init_508 : decode cX13_init 508 = .ok (.newarray .int, 2) := by decide +kernel
theorem dX13_init_510 : decode cX13_init 510 = .ok (.putfield 187, 3) := by decide +kernel
theorem dX13_init_513 : decode cX13_init 513 = .ok (.aload_n 0, 1) := by decide +kernel
theorem dX13_init_514 : decode cX13_init 514 = .ok (.sipush 14000, 3) := by decide +kernel
theorem dX13_init_517 : decode cX13_init 517 = .ok (.newarray .int, 2) := by decide +kernel
theorem dX13_init_519 : decode cX13_init 519 = .ok (.putfield 190, 3) := by decide +kernel
theorem dX13_init_522 : decode cX13_init 522 = .ok (.aload_n 0, 1) := by decide +kernel
theorem dX13_init_523 : decode cX13_init 523 = .ok (.sipush 14000, 3) := by decide +kernel
theorem dX13_init_526 : decode cX13_init 526 = .ok (.newarray .int, 2) := by decide +kernel
theorem dX13_init_528 : decode cX13_init 528 = .ok (.putfield 193, 3) := by decide +kernel
theorem dX13_init_531 : decode cX13_init 531 = .ok (.aload_n 0, 1) := by decide +kernel
theorem dX13_init_532 : decode cX13_init 532 = .ok (.sipush 14000, 3) := by decide +kernel
theorem dX13_init_535 : decode cX13_init 535 = .ok (.newarray .int, 2) := by decide +kernel
theorem dX13_init_537 : decode cX13_init 537 = .ok (.putfield 196, 3) := by decide +kernel
theorem dX13_init_540 : decode cX13_init 540 = .ok (.aload_n 0, 1) := by decide +kernel
theorem dX13_init_541 : decode cX13_init 541 = .ok (.sipush 14000, 3) := by decide +kernel
theorem dX13_init_544 : decode cX13_init 544 = .ok (.newarray .int, 2) := by decide +kernel
theorem dX13_init_546 : decode cX13_init 546 = .ok (.putfield 199, 3) := by decide +kernel
theorem dX13_init_549 : decode cX13_init 549 = .ok (.aload_n 0, 1) := by decide +kernel
theorem dX13_init_550 : decode cX13_init 550 = .ok (.sipush 14000, 3) := by decide +kernel
theorem dX13_init_553 : decode cX13_init 553 = .ok (.newarray .int, 2) := by decide +kernel
theorem dX13_init_555 : decode cX13_init 555 = .ok (.putfield 202, 3) := by decide +kernel
theorem dX13_init_558 : decode cX13_init 558 = .ok (.aload_n 0, 1) := by decide +kernel
theorem dX13_init_559 : decode cX13_init 559 = .ok (.sipush 14000, 3) := by decide +kernel
theorem dX13_init_562 : decode cX13_init 562 = .ok (.newarray .int, 2) := by decide +kernel
theorem dX13_init_564 : decode cX13_init 564 = .ok (.putfield 205, 3) := by decide +kernel
theorem dX13_init_567 : decode cX13_init 567 = .ok (.aload_n 0, 1) := by decide +kernel
theorem dX13_init_568 : decode cX13_init 568 = .ok (.sipush 14000, 3) := by decide +kernel
theorem dX13_init_571 : decode cX13_init 571 = .ok (.newarray .int, 2) := by decide +kernel
theorem dX13_init_573 : decode cX13_init 573 = .ok (.putfield 208, 3) := by decide +kernel
theorem dX13_init_576 : decode cX13_init 576 = .ok (.aload_n 0, 1) := by decide +kernel
theorem dX13_init_577 : decode cX13_init 577 = .ok (.sipush 14000, 3) := by decide +kernel
theorem dX13_init_580 : decode cX13_init 580 = .ok (.newarray .int, 2) := by decide +kernel
theorem dX13_init_582 : decode cX13_init 582 = .ok (.putfield 211, 3) := by decide +kernel
theorem dX13_init_585 : decode cX13_init 585 = .ok (.aload_n 0, 1) := by decide +kernel
theorem dX13_init_586 : decode cX13_init 586 = .ok (.sipush 14000, 3) := by decide +kernel
theorem dX13_init_589 : decode cX13_init 589 = .ok (.newarray .int, 2) := by decide +kernel
theorem dX13_init_591 : decode cX13_init 591 = .ok (.putfield 214, 3) := by decide +kernel
theorem dX13_init_594 : decode cX13_init 594 = .ok (.aload_n 0, 1) := by decide +kernel
theorem dX13_init_595 : decode cX13_init 595 = .ok (.sipush 14000, 3) := by decide +kernel
theorem dX13_init_598 : decode cX13_init 598 = .ok (.newarray .int, 2) := by decide +kernel
theorem dX13_init_600 : decode cX13_init 600 = .ok (.putfield 217, 3) := by decide +kernel
theorem dX13_init_603 : decode cX13_init 603 = .ok (.aload_n 0, 1) := by decide +kernel
theorem dX13_init_604 : decode cX13_init 604 = .ok (.sipush 6100, 3) := by decide +kernel
theorem dX13_init_607 : decode cX13_init 607 = .ok (.newarray .int, 2) := by decide +kernel
theorem dX13_init_609 : decode cX13_init 609 = .ok (.putfield 220, 3) := by decide +kernel
theorem dX13_init_612 : decode cX13_init 612 = .ok (.aload_n 0, 1) := by decide +kernel
theorem dX13_init_613 : decode cX13_init 613 = .ok (.sipush 6100, 3) := by decide +kernel
theorem dX13_init_616 : decode cX13_init 616 = .ok (.newarray .int, 2) := by decide +kernel
theorem dX13_init_618 : decode cX13_init 618 = .ok (.putfield 223, 3) := by decide +kernel
theorem dX13_init_621 : decode cX13_init 621 = .ok (.aload_n 0, 1) := by decide +kernel
theorem dX13_init_622 : decode cX13_init 622 = .ok (.sipush 6100, 3) := by decide +kernel
theorem dX13_init_625 : decode cX13_init 625 = .ok (.newarray .int, 2) := by decide +kernel
theorem dX13_init_627 : decode cX13_init 627 = .ok (.putfield 226, 3) := by decide +kernel
theorem dX13_init_630 : decode cX13_init 630 = .ok (.aload_n 0, 1) := by decide +kernel
theorem dX13_init_631 : decode cX13_init 631 = .ok (.sipush 6100, 3) := by decide +kernel
theorem dX13_init_634 : decode cX13_init 634 = .ok (.newarray .int, 2) := by decide +kernel
theorem dX13_init_636 : decode cX13_init 636 = .ok (.putfield 229, 3) := by decide +kernel
theorem dX13_init_639 : decode cX13_init 639 = .ok (.aload_n 0, 1) := by decide +kernel
theorem dX13_init_640 : decode cX13_init 640 = .ok (.sipush 6100, 3) := by decide +kernel
theorem dX13_init_643 : decode cX13_init 643 = .ok (.newarray .int, 2) := by decide +kernel
theorem dX13_init_645 : decode cX13_init 645 = .ok (.putfield 232, 3) := by decide +kernel
theorem dX13_init_648 : decode cX13_init 648 = .ok (.aload_n 0, 1) := by decide +kernel
theorem dX13_init_649 : decode cX13_init 649 = .ok (.sipush 6100, 3) := by decide +kernel
theorem dX13_init_652 : decode cX13_init 652 = .ok (.newarray .int, 2) := by decide +kernel
theorem dX13_init_654 : decode cX13_init 654 = .ok (.putfield 235, 3) := by decide +kernel
theorem dX13_init_657 : decode cX13_init 657 = .ok (.aload_n 0, 1) := by decide +kernel
theorem dX13_init_658 : decode cX13_init 658 = .ok (.sipush 6100, 3) := by decide +kernel
theorem dX13_init_661 : decode cX13_init 661 = .ok (.newarray .int, 2) := by decide +kernel
theorem dX13_init_663 : decode cX13_init 663 = .ok (.putfield 238, 3) := by decide +kernel
theorem dX13_init_666 : decode cX13_init 666 = .ok (.aload_n 0, 1) := by decide +kernel
theorem dX13_init_667 : decode cX13_init 667 = .ok (.sipush 6100, 3) := by decide +kernel
theorem dX13_init_670 : decode cX13_init 670 = .ok (.newarray .int, 2) := by decide +kernel
theorem dX13_init_672 : decode cX13_init 672 = .ok (.putfield 241, 3) := by decide +kernel
theorem dX13_init_675 : decode cX13_init 675 = .ok (.aload_n 0, 1) := by decide +kernel
theorem dX13_init_676 : decode cX13_init 676 = .ok (.sipush 6100, 3) := by decide +kernel
theorem dX13_init_679 : decode cX13_init 679 = .ok (.newarray .boolean, 2) := by decide +kernel
theorem dX13_init_681 : decode cX13_init 681 = .ok (.putfield 244, 3) := by decide +kernel
theorem dX13_init_684 : decode cX13_init 684 = .ok (.aload_n 0, 1) := by decide +kernel
theorem dX13_init_685 : decode cX13_init 685 = .ok (.sipush 6100, 3) := by decide +kernel
theorem dX13_init_688 : decode cX13_init 688 = .ok (.newarray .int, 2) := by decide +kernel
theorem dX13_init_690 : decode cX13_init 690 = .ok (.putfield 248, 3) := by decide +kernel
theorem dX13_init_693 : decode cX13_init 693 = .ok (.aload_n 0, 1) := by decide +kernel
theorem dX13_init_694 : decode cX13_init 694 = .ok (.sipush 6100, 3) := by decide +kernel
theorem dX13_init_697 : decode cX13_init 697 = .ok (.newarray .int, 2) := by decide +kernel
theorem dX13_init_699 : decode cX13_init 699 = .ok (.putfield 251, 3) := by decide +kernel
theorem dX13_init_702 : decode cX13_init 702 = .ok (.aload_n 0, 1) := by decide +kernel
theorem dX13_init_703 : decode cX13_init 703 = .ok (.sipush 6100, 3) := by decide +kernel
theorem dX13_init_706 : decode cX13_init 706 = .ok (.newarray .int, 2) := by decide +kernel
theorem dX13_init_708 : decode cX13_init 708 = .ok (.putfield 254, 3) := by decide +kernel
theorem dX13_init_711 : decode cX13_init 711 = .ok (.aload_n 0, 1) := by decide +kernel
theorem dX13_init_712 : decode cX13_init 712 = .ok (.sipush 6100, 3) := by decide +kernel
theorem dX13_init_715 : decode cX13_init 715 = .ok (.newarray .int, 2) := by decide +kernel
theorem dX13_init_717 : decode cX13_init 717 = .ok (.putfield 257, 3) := by decide +kernel
theorem dX13_init_720 : decode cX13_init 720 = .ok (.aload_n 0, 1) := by decide +kernel
theorem dX13_init_721 : decode cX13_init 721 = .ok (.sipush 6100, 3) := by decide +kernel
theorem dX13_init_724 : decode cX13_init 724 = .ok (.newarray .int, 2) := by decide +kernel
theorem dX13_init_726 : decode cX13_init 726 = .ok (.putfield 260, 3) := by decide +kernel
theorem dX13_init_729 : decode cX13_init 729 = .ok (.aload_n 0, 1) := by decide +kernel
theorem dX13_init_730 : decode cX13_init 730 = .ok (.sipush 14000, 3) := by decide +kernel
theorem dX13_init_733 : decode cX13_init 733 = .ok (.newarray .int, 2) := by decide +kernel
theorem dX13_init_735 : decode cX13_init 735 = .ok (.putfield 263, 3) := by decide +kernel
theorem dX13_init_738 : decode cX13_init 738 = .ok (.aload_n 0, 1) := by decide +kernel
theorem dX13_init_739 : decode cX13_init 739 = .ok (.sipush 14000, 3) := by decide +kernel
theorem dX13_init_742 : decode cX13_init 742 = .ok (.newarray .int, 2) := by decide +kernel
theorem dX13_init_744 : decode cX13_init 744 = .ok (.putfield 266, 3) := by decide +kernel
theorem dX13_init_747 : decode cX13_init 747 = .ok (.aload_n 0, 1) := by decide +kernel
theorem dX13_init_748 : decode cX13_init 748 = .ok (.sipush 14000, 3) := by decide +kernel
theorem dX13_init_751 : decode cX13_init 751 = .ok (.newarray .int, 2) := by decide +kernel
theorem dX13_init_753 : decode cX13_init 753 = .ok (.putfield 269, 3) := by decide +kernel
theorem dX13_init_756 : decode cX13_init 756 = .ok (.aload_n 0, 1) := by decide +kernel
theorem dX13_init_757 : decode cX13_init 757 = .ok (.sipush 6100, 3) := by decide +kernel
theorem dX13_init_760 : decode cX13_init 760 = .ok (.newarray .boolean, 2) := by decide +kernel
theorem dX13_init_762 : decode cX13_init 762 = .ok (.putfield 272, 3) := by decide +kernel
theorem dX13_init_765 : decode cX13_init 765 = .ok (.aload_n 0, 1) := by decide +kernel
theorem dX13_init_766 : decode cX13_init 766 = .ok (.sipush 6100, 3) := by decide +kernel
theorem dX13_init_769 : decode cX13_init 769 = .ok (.newarray .int, 2) := by decide +kernel
theorem dX13_init_771 : decode cX13_init 771 = .ok (.putfield 275, 3) := by decide +kernel
theorem dX13_init_774 : decode cX13_init 774 = .ok (.aload_n 0, 1) := by decide +kernel
theorem dX13_init_775 : decode cX13_init 775 = .ok (.sipush 6100, 3) := by decide +kernel
theorem dX13_init_778 : decode cX13_init 778 = .ok (.newarray .int, 2) := by decide +kernel
theorem dX13_init_780 : decode cX13_init 780 = .ok (.putfield 278, 3) := by decide +kernel
theorem dX13_init_783 : decode cX13_init 783 = .ok (.aload_n 0, 1) := by decide +kernel
theorem dX13_init_784 : decode cX13_init 784 = .ok (.sipush 6100, 3) := by decide +kernel
theorem dX13_init_787 : decode cX13_init 787 = .ok (.newarray .boolean, 2) := by decide +kernel
theorem dX13_init_789 : decode cX13_init 789 = .ok (.putfield 281, 3) := by decide +kernel
theorem dX13_init_792 : decode cX13_init 792 = .ok (.aload_n 0, 1) := by decide +kernel
theorem dX13_init_793 : decode cX13_init 793 = .ok (.sipush 14000, 3) := by decide +kernel
theorem dX13_init_796 : decode cX13_init 796 = .ok (.newarray .long, 2) := by decide +kernel
theorem dX13_init_798 : decode cX13_init 798 = .ok (.putfield 284, 3) := by decide +kernel
theorem dX13_init_801 : decode cX13_init 801 = .ok (.aload_n 0, 1) := by decide +kernel
theorem dX13_init_802 : decode cX13_init 802 = .ok (.sipush 14000, 3) := by decide +kernel
theorem dX13_init_805 : decode cX13_init 805 = .ok (.newarray .int, 2) := by decide +kernel
theorem dX13_init_807 : decode cX13_init 807 = .ok (.putfield 288, 3) := by decide +kernel
theorem dX13_init_810 : decode cX13_init 810 = .ok (.aload_n 0, 1) := by decide +kernel
theorem dX13_init_811 : decode cX13_init 811 = .ok (.sipush 14000, 3) := by decide +kernel
theorem dX13_init_814 : decode cX13_init 814 = .ok (.newarray .int, 2) := by decide +kernel
theorem dX13_init_816 : decode cX13_init 816 = .ok (.putfield 291, 3) := by decide +kernel
theorem dX13_init_819 : decode cX13_init 819 = .ok (.aload_n 0, 1) := by decide +kernel
theorem dX13_init_820 : decode cX13_init 820 = .ok (.ldc_w 294, 3) := by decide +kernel
theorem dX13_init_823 : decode cX13_init 823 = .ok (.newarray .int, 2) := by decide +kernel
theorem dX13_init_825 : decode cX13_init 825 = .ok (.putfield 295, 3) := by decide +kernel
theorem dX13_init_828 : decode cX13_init 828 = .ok (.aload_n 0, 1) := by decide +kernel
theorem dX13_init_829 : decode cX13_init 829 = .ok (.ldc_w 294, 3) := by decide +kernel
theorem dX13_init_832 : decode cX13_init 832 = .ok (.newarray .int, 2) := by decide +kernel
theorem dX13_init_834 : decode cX13_init 834 = .ok (.putfield 298, 3) := by decide +kernel
theorem dX13_init_837 : decode cX13_init 837 = .ok (.aload_n 0, 1) := by decide +kernel
theorem dX13_init_838 : decode cX13_init 838 = .ok (.sipush 14000, 3) := by decide +kernel
theorem dX13_init_841 : decode cX13_init 841 = .ok (.newarray .int, 2) := by decide +kernel
theorem dX13_init_843 : decode cX13_init 843 = .ok (.putfield 301, 3) := by decide +kernel
theorem dX13_init_846 : decode cX13_init 846 = .ok (.aload_n 0, 1) := by decide +kernel
theorem dX13_init_847 : decode cX13_init 847 = .ok (.sipush 14000, 3) := by decide +kernel
theorem dX13_init_850 : decode cX13_init 850 = .ok (.newarray .int, 2) := by decide +kernel
theorem dX13_init_852 : decode cX13_init 852 = .ok (.putfield 304, 3) := by decide +kernel
theorem dX13_init_855 : decode cX13_init 855 = .ok (.aload_n 0, 1) := by decide +kernel
theorem dX13_init_856 : decode cX13_init 856 = .ok (.sipush 14000, 3) := by decide +kernel
theorem dX13_init_859 : decode cX13_init 859 = .ok (.newarray .boolean, 2) := by decide +kernel
theorem dX13_init_861 : decode cX13_init 861 = .ok (.putfield 307, 3) := by decide +kernel
theorem dX13_init_864 : decode cX13_init 864 = .ok (.aload_n 0, 1) := by decide +kernel
theorem dX13_init_865 : decode cX13_init 865 = .ok (.iconst 4, 1) := by decide +kernel
theorem dX13_init_866 : decode cX13_init 866 = .ok (.newarray .long, 2) := by decide +kernel
theorem dX13_init_868 : decode cX13_init 868 = .ok (.putfield 310, 3) := by decide +kernel
theorem dX13_init_871 : decode cX13_init 871 = .ok (.aload_n 0, 1) := by decide +kernel
theorem dX13_init_872 : decode cX13_init 872 = .ok (.bipush 64, 2) := by decide +kernel
theorem dX13_init_874 : decode cX13_init 874 = .ok (.newarray .int, 2) := by decide +kernel
theorem dX13_init_876 : decode cX13_init 876 = .ok (.putfield 313, 3) := by decide +kernel
theorem dX13_init_879 : decode cX13_init 879 = .ok (.aload_n 0, 1) := by decide +kernel
theorem dX13_init_880 : decode cX13_init 880 = .ok (.sipush 6100, 3) := by decide +kernel
theorem dX13_init_883 : decode cX13_init 883 = .ok (.newarray .boolean, 2) := by decide +kernel
theorem dX13_init_885 : decode cX13_init 885 = .ok (.putfield 316, 3) := by decide +kernel
theorem dX13_init_888 : decode cX13_init 888 = .ok (.aload_n 0, 1) := by decide +kernel
theorem dX13_init_889 : decode cX13_init 889 = .ok (.sipush 14000, 3) := by decide +kernel
theorem dX13_init_892 : decode cX13_init 892 = .ok (.newarray .int, 2) := by decide +kernel
theorem dX13_init_894 : decode cX13_init 894 = .ok (.putfield 319, 3) := by decide +kernel
theorem dX13_init_897 : decode cX13_init 897 = .ok (.aload_n 0, 1) := by decide +kernel
theorem dX13_init_898 : decode cX13_init 898 = .ok (.sipush 12000, 3) := by decide +kernel
theorem dX13_init_901 : decode cX13_init 901 = .ok (.newarray .long, 2) := by decide +kernel
theorem dX13_init_903 : decode cX13_init 903 = .ok (.putfield 322, 3) := by decide +kernel
theorem dX13_init_906 : decode cX13_init 906 = .ok (.aload_n 0, 1) := by decide +kernel
theorem dX13_init_907 : decode cX13_init 907 = .ok (.bipush 8, 2) := by decide +kernel
theorem dX13_init_909 : decode cX13_init 909 = .ok (.newarray .int, 2) := by decide +kernel
theorem dX13_init_911 : decode cX13_init 911 = .ok (.putfield 325, 3) := by decide +kernel
theorem dX13_init_914 : decode cX13_init 914 = .ok (.aload_n 0, 1) := by decide +kernel
theorem dX13_init_915 : decode cX13_init 915 = .ok (.bipush 8, 2) := by decide +kernel
theorem dX13_init_917 : decode cX13_init 917 = .ok (.newarray .boolean, 2) := by decide +kernel
theorem dX13_init_919 : decode cX13_init 919 = .ok (.putfield 328, 3) := by decide +kernel
theorem dX13_init_922 : decode cX13_init 922 = .ok (.aload_n 0, 1) := by decide +kernel
theorem dX13_init_923 : decode cX13_init 923 = .ok (.bipush 32, 2) := by decide +kernel
theorem dX13_init_925 : decode cX13_init 925 = .ok (.newarray .long, 2) := by decide +kernel
theorem dX13_init_927 : decode cX13_init 927 = .ok (.putfield 331, 3) := by decide +kernel
theorem dX13_init_930 : decode cX13_init 930 = .ok (.aload_n 0, 1) := by decide +kernel
theorem dX13_init_931 : decode cX13_init 931 = .ok (.sipush 1600, 3) := by decide +kernel
theorem dX13_init_934 : decode cX13_init 934 = .ok (.newarray .int, 2) := by decide +kernel
theorem dX13_init_936 : decode cX13_init 936 = .ok (.putfield 334, 3) := by decide +kernel
theorem dX13_init_939 : decode cX13_init 939 = .ok (.aload_n 0, 1) := by decide +kernel
theorem dX13_init_940 : decode cX13_init 940 = .ok (.sipush 6400, 3) := by decide +kernel
theorem dX13_init_943 : decode cX13_init 943 = .ok (.newarray .boolean, 2) := by decide +kernel
theorem dX13_init_945 : decode cX13_init 945 = .ok (.putfield 337, 3) := by decide +kernel
theorem dX13_init_948 : decode cX13_init 948 = .ok (.aload_n 0, 1) := by decide +kernel
theorem dX13_init_949 : decode cX13_init 949 = .ok (.sipush 25600, 3) := by decide +kernel
theorem dX13_init_952 : decode cX13_init 952 = .ok (.newarray .long, 2) := by decide +kernel
theorem dX13_init_954 : decode cX13_init 954 = .ok (.putfield 340, 3) := by decide +kernel
theorem dX13_init_957 : decode cX13_init 957 = .ok (.aload_n 0, 1) := by decide +kernel
theorem dX13_init_958 : decode cX13_init 958 = .ok (.sipush 6400, 3) := by decide +kernel
theorem dX13_init_961 : decode cX13_init 961 = .ok (.newarray .boolean, 2) := by decide +kernel
theorem dX13_init_963 : decode cX13_init 963 = .ok (.putfield 343, 3) := by decide +kernel
theorem dX13_init_966 : decode cX13_init 966 = .ok (.aload_n 0, 1) := by decide +kernel
theorem dX13_init_967 : decode cX13_init 967 = .ok (.sipush 25600, 3) := by decide +kernel
theorem dX13_init_970 : decode cX13_init 970 = .ok (.newarray .long, 2) := by decide +kernel
theorem dX13_init_972 : decode cX13_init 972 = .ok (.putfield 346, 3) := by decide +kernel
theorem dX13_init_975 : decode cX13_init 975 = .ok (.aload_n 0, 1) := by decide +kernel
theorem dX13_init_976 : decode cX13_init 976 = .ok (.ldc_w 349, 3) := by decide +kernel
theorem dX13_init_979 : decode cX13_init 979 = .ok (.newarray .int, 2) := by decide +kernel
theorem dX13_init_981 : decode cX13_init 981 = .ok (.putfield 350, 3) := by decide +kernel
theorem dX13_init_984 : decode cX13_init 984 = .ok (.aload_n 0, 1) := by decide +kernel
theorem dX13_init_985 : decode cX13_init 985 = .ok (.ldc_w 349, 3) := by decide +kernel
theorem dX13_init_988 : decode cX13_init 988 = .ok (.newarray .int, 2) := by decide +kernel
theorem dX13_init_990 : decode cX13_init 990 = .ok (.putfield 353, 3) := by decide +kernel
theorem dX13_init_993 : decode cX13_init 993 = .ok (.aload_n 0, 1) := by decide +kernel
theorem dX13_init_994 : decode cX13_init 994 = .ok (.ldc_w 349, 3) := by decide +kernel
theorem dX13_init_997 : decode cX13_init 997 = .ok (.newarray .int, 2) := by decide +kernel
theorem dX13_init_999 : decode cX13_init 999 = .ok (.putfield 356, 3) := by decide +kernel
theorem dX13_init_1002 : decode cX13_init 1002 = .ok (.aload_n 0, 1) := by decide +kernel
theorem dX13_init_1003 : decode cX13_init 1003 = .ok (.sipush 2048, 3) := by decide +kernel
theorem dX13_init_1006 : decode cX13_init 1006 = .ok (.newarray .int, 2) := by decide +kernel
theorem dX13_init_1008 : decode cX13_init 1008 = .ok (.putfield 359, 3) := by decide +kernel
theorem dX13_init_1011 : decode cX13_init 1011 = .ok (.aload_n 0, 1) := by decide +kernel
theorem dX13_init_1012 : decode cX13_init 1012 = .ok (.sipush 2048, 3) := by decide +kernel
theorem dX13_init_1015 : decode cX13_init 1015 = .ok (.newarray .int, 2) := by decide +kernel
theorem dX13_init_1017 : decode cX13_init 1017 = .ok (.putfield 362, 3) := by decide +kernel
theorem dX13_init_1020 : decode cX13_init 1020 = .ok (.aload_n 0, 1) := by decide +kernel
theorem dX13_init_1021 : decode cX13_init 1021 = .ok (.bipush 32, 2) := by decide +kernel
theorem dX13_init_1023 : decode cX13_init 1023 = .ok (.anewarray 365, 3) := by decide +kernel
theorem dX13_init_1026 : decode cX13_init 1026 = .ok (.putfield 366, 3) := by decide +kernel
theorem dX13_init_1029 : decode cX13_init 1029 = .ok (.aload_n 0, 1) := by decide +kernel
theorem dX13_init_1030 : decode cX13_init 1030 = .ok (.sipush 2048, 3) := by decide +kernel
theorem dX13_init_1033 : decode cX13_init 1033 = .ok (.newarray .int, 2) := by decide +kernel
theorem dX13_init_1035 : decode cX13_init 1035 = .ok (.putfield 370, 3) := by decide +kernel
theorem dX13_init_1038 : decode cX13_init 1038 = .ok (.aload_n 0, 1) := by decide +kernel
theorem dX13_init_1039 : decode cX13_init 1039 = .ok (.sipush 2048, 3) := by decide +kernel
theorem dX13_init_1042 : decode cX13_init 1042 = .ok (.newarray .int, 2) := by decide +kernel
theorem dX13_init_1044 : decode cX13_init 1044 = .ok (.putfield 373, 3) := by decide +kernel
theorem dX13_init_1047 : decode cX13_init 1047 = .ok (.aload_n 0, 1) := by decide +kernel
theorem dX13_init_1048 : decode cX13_init 1048 = .ok (.sipush 2000, 3) := by decide +kernel
theorem dX13_init_1051 : decode cX13_init 1051 = .ok (.newarray .int, 2) := by decide +kernel
theorem dX13_init_1053 : decode cX13_init 1053 = .ok (.putfield 376, 3) := by decide +kernel
theorem dX13_init_1056 : decode cX13_init 1056 = .ok (.aload_n 0, 1) := by decide +kernel
theorem dX13_init_1057 : decode cX13_init 1057 = .ok (.sipush 500, 3) := by decide +kernel
theorem dX13_init_1060 : decode cX13_init 1060 = .ok (.newarray .int, 2) := by decide +kernel
theorem dX13_init_1062 : decode cX13_init 1062 = .ok (.putfield 379, 3) := by decide +kernel
theorem dX13_init_1065 : decode cX13_init 1065 = .ok (.aload_n 0, 1) := by decide +kernel
theorem dX13_init_1066 : decode cX13_init 1066 = .ok (.sipush 448, 3) := by decide +kernel
theorem dX13_init_1069 : decode cX13_init 1069 = .ok (.newarray .int, 2) := by decide +kernel
theorem dX13_init_1071 : decode cX13_init 1071 = .ok (.putfield 382, 3) := by decide +kernel
theorem dX13_init_1074 : decode cX13_init 1074 = .ok (.aload_n 0, 1) := by decide +kernel
theorem dX13_init_1075 : decode cX13_init 1075 = .ok (.bipush 82, 2) := by decide +kernel
theorem dX13_init_1077 : decode cX13_init 1077 = .ok (.newarray .int, 2) := by decide +kernel
theorem dX13_init_1079 : decode cX13_init 1079 = .ok (.putfield 385, 3) := by decide +kernel
theorem dX13_init_1082 : decode cX13_init 1082 = .ok (.aload_n 0, 1) := by decide +kernel
theorem dX13_init_1083 : decode cX13_init 1083 = .ok (.bipush 82, 2) := by decide +kernel
theorem dX13_init_1085 : decode cX13_init 1085 = .ok (.newarray .boolean, 2) := by decide +kernel
theorem dX13_init_1087 : decode cX13_init 1087 = .ok (.putfield 388, 3) := by decide +kernel
theorem dX13_init_1090 : decode cX13_init 1090 = .ok (.aload_n 0, 1) := by decide +kernel
theorem dX13_init_1091 : decode cX13_init 1091 = .ok (.bipush 82, 2) := by decide +kernel
theorem dX13_init_1093 : decode cX13_init 1093 = .ok (.newarray .int, 2) := by decide +kernel
theorem dX13_init_1095 : decode cX13_init 1095 = .ok (.putfield 391, 3) := by decide +kernel
theorem dX13_init_1098 : decode cX13_init 1098 = .ok (.aload_n 0, 1) := by decide +kernel
theorem dX13_init_1099 : decode cX13_init 1099 = .ok (.bipush 82, 2) := by decide +kernel
theorem dX13_init_1101 : decode cX13_init 1101 = .ok (.newarray .int, 2) := by decide +kernel
theorem dX13_init_1103 : decode cX13_init 1103 = .ok (.putfield 394, 3) := by decide +kernel
theorem dX13_init_1106 : decode cX13_init 1106 = .ok (.aload_n 0, 1) := by decide +kernel
theorem dX13_init_1107 : decode cX13_init 1107 = .ok (.bipush 82, 2) := by decide +kernel
theorem dX13_init_1109 : decode cX13_init 1109 = .ok (.newarray .int, 2) := by decide +kernel
theorem dX13_init_1111 : decode cX13_init 1111 = .ok (.putfield 397, 3) := by decide +kernel
theorem dX13_init_1114 : decode cX13_init 1114 = .ok (.aload_n 0, 1) := by decide +kernel
theorem dX13_init_1115 : decode cX13_init 1115 = .ok (.bipush 82, 2) := by decide +kernel
theorem dX13_init_1117 : decode cX13_init 1117 = .ok (.newarray .int, 2) := by decide +kernel
theorem dX13_init_1119 : decode cX13_init 1119 = .ok (.putfield 400, 3) := by decide +kernel
theorem dX13_init_1122 : decode cX13_init 1122 = .ok (.aload_n 0, 1) := by decide +kernel
theorem dX13_init_1123 : decode cX13_init 1123 = .ok (.bipush 82, 2) := by decide +kernel
theorem dX13_init_1125 : decode cX13_init 1125 = .ok (.newarray .int, 2) := by decide +kernel
theorem dX13_init_1127 : decode cX13_init 1127 = .ok (.putfield 403, 3) := by decide +kernel
theorem dX13_init_1130 : decode cX13_init 1130 = .ok (.aload_n 0, 1) := by decide +kernel
theorem dX13_init_1131 : decode cX13_init 1131 = .ok (.bipush 82, 2) := by decide +kernel
theorem dX13_init_1133 : decode cX13_init 1133 = .ok (.newarray .int, 2) := by decide +kernel
theorem dX13_init_1135 : decode cX13_init 1135 = .ok (.putfield 406, 3) := by decide +kernel
theorem dX13_init_1138 : decode cX13_init 1138 = .ok (.aload_n 0, 1) := by decide +kernel
theorem dX13_init_1139 : decode cX13_init 1139 = .ok (.bipush 82, 2) := by decide +kernel
theorem dX13_init_1141 : decode cX13_init 1141 = .ok (.newarray .int, 2) := by decide +kernel
theorem dX13_init_1143 : decode cX13_init 1143 = .ok (.putfield 409, 3) := by decide +kernel
theorem dX13_init_1146 : decode cX13_init 1146 = .ok (.aload_n 0, 1) := by decide +kernel
theorem dX13_init_1147 : decode cX13_init 1147 = .ok (.bipush 82, 2) := by decide +kernel
theorem dX13_init_1149 : decode cX13_init 1149 = .ok (.newarray .int, 2) := by decide +kernel
theorem dX13_init_1151 : decode cX13_init 1151 = .ok (.putfield 412, 3) := by decide +kernel
theorem dX13_init_1154 : decode cX13_init 1154 = .ok (.aload_n 0, 1) := by decide +kernel
theorem dX13_init_1155 : decode cX13_init 1155 = .ok (.bipush 82, 2) := by decide +kernel
theorem dX13_init_1157 : decode cX13_init 1157 = .ok (.newarray .int, 2) := by decide +kernel
theorem dX13_init_1159 : decode cX13_init 1159 = .ok (.putfield 415, 3) := by decide +kernel
theorem dX13_init_1162 : decode cX13_init 1162 = .ok (.aload_n 0, 1) := by decide +kernel
theorem dX13_init_1163 : decode cX13_init 1163 = .ok (.bipush 82, 2) := by decide +kernel
theorem dX13_init_1165 : decode cX13_init 1165 = .ok (.newarray .int, 2) := by decide +kernel
theorem dX13_init_1167 : decode cX13_init 1167 = .ok (.putfield 418, 3) := by decide +kernel
theorem dX13_init_1170 : decode cX13_init 1170 = .ok (.aload_n 0, 1) := by decide +kernel
theorem dX13_init_1171 : decode cX13_init 1171 = .ok (.bipush 82, 2) := by decide +kernel
theorem dX13_init_1173 : decode cX13_init 1173 = .ok (.newarray .int, 2) := by decide +kernel
theorem dX13_init_1175 : decode cX13_init 1175 = .ok (.putfield 421, 3) := by decide +kernel
theorem dX13_init_1178 : decode cX13_init 1178 = .ok (.aload_n 0, 1) := by decide +kernel
theorem dX13_init_1179 : decode cX13_init 1179 = .ok (.bipush 82, 2) := by decide +kernel
theorem dX13_init_1181 : decode cX13_init 1181 = .ok (.newarray .int, 2) := by decide +kernel
theorem dX13_init_1183 : decode cX13_init 1183 = .ok (.putfield 424, 3) := by decide +kernel
theorem dX13_init_1186 : decode cX13_init 1186 = .ok (.aload_n 0, 1) := by decide +kernel
theorem dX13_init_1187 : decode cX13_init 1187 = .ok (.bipush 82, 2) := by decide +kernel
theorem dX13_init_1189 : decode cX13_init 1189 = .ok (.newarray .int, 2) := by decide +kernel
theorem dX13_init_1191 : decode cX13_init 1191 = .ok (.putfield 427, 3) := by decide +kernel
theorem dX13_init_1194 : decode cX13_init 1194 = .ok (.aload_n 0, 1) := by decide +kernel
theorem dX13_init_1195 : decode cX13_init 1195 = .ok (.bipush 82, 2) := by decide +kernel
theorem dX13_init_1197 : decode cX13_init 1197 = .ok (.newarray .boolean, 2) := by decide +kernel
theorem dX13_init_1199 : decode cX13_init 1199 = .ok (.putfield 430, 3) := by decide +kernel
theorem dX13_init_1202 : decode cX13_init 1202 = .ok (.aload_n 0, 1) := by decide +kernel
theorem dX13_init_1203 : decode cX13_init 1203 = .ok (.bipush 82, 2) := by decide +kernel
theorem dX13_init_1205 : decode cX13_init 1205 = .ok (.newarray .int, 2) := by decide +kernel
theorem dX13_init_1207 : decode cX13_init 1207 = .ok (.putfield 433, 3) := by decide +kernel
theorem dX13_init_1210 : decode cX13_init 1210 = .ok (.aload_n 0, 1) := by decide +kernel
theorem dX13_init_1211 : decode cX13_init 1211 = .ok (.bipush 64, 2) := by decide +kernel
theorem dX13_init_1213 : decode cX13_init 1213 = .ok (.anewarray 365, 3) := by decide +kernel
theorem dX13_init_1216 : decode cX13_init 1216 = .ok (.putfield 436, 3) := by decide +kernel
theorem dX13_init_1219 : decode cX13_init 1219 = .ok (.aload_n 0, 1) := by decide +kernel
theorem dX13_init_1220 : decode cX13_init 1220 = .ok (.sipush 256, 3) := by decide +kernel
theorem dX13_init_1223 : decode cX13_init 1223 = .ok (.newarray .int, 2) := by decide +kernel
theorem dX13_init_1225 : decode cX13_init 1225 = .ok (.putfield 439, 3) := by decide +kernel
theorem dX13_init_1228 : decode cX13_init 1228 = .ok (.aload_n 0, 1) := by decide +kernel
theorem dX13_init_1229 : decode cX13_init 1229 = .ok (.sipush 256, 3) := by decide +kernel
theorem dX13_init_1232 : decode cX13_init 1232 = .ok (.newarray .int, 2) := by decide +kernel
theorem dX13_init_1234 : decode cX13_init 1234 = .ok (.putfield 442, 3) := by decide +kernel
theorem dX13_init_1237 : decode cX13_init 1237 = .ok (.aload_n 0, 1) := by decide +kernel
theorem dX13_init_1238 : decode cX13_init 1238 = .ok (.sipush 512, 3) := by decide +kernel
theorem dX13_init_1241 : decode cX13_init 1241 = .ok (.newarray .int, 2) := by decide +kernel
theorem dX13_init_1243 : decode cX13_init 1243 = .ok (.putfield 445, 3) := by decide +kernel
theorem dX13_init_1246 : decode cX13_init 1246 = .ok (.aload_n 0, 1) := by decide +kernel
theorem dX13_init_1247 : decode cX13_init 1247 = .ok (.sipush 512, 3) := by decide +kernel
theorem dX13_init_1250 : decode cX13_init 1250 = .ok (.newarray .int, 2) := by decide +kernel
theorem dX13_init_1252 : decode cX13_init 1252 = .ok (.putfield 448, 3) := by decide +kernel
theorem dX13_init_1255 : decode cX13_init 1255 = .ok (.return_, 1) := by decide +kernel
