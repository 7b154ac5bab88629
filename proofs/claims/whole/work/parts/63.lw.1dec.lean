theorem d_La_law_0 : decode b_La_law 0 = .ok (.new 8, 3) := by decide +kernel
theorem d_La_law_3 : decode b_La_law 3 = .ok (.dup, 1) := by decide +kernel
theorem d_La_law_4 : decode b_La_law 4 = .ok (.invokespecial 66, 3) := by decide +kernel
theorem d_La_law_7 : decode b_La_law 7 = .ok (.astore_n 1, 1) := by decide +kernel
theorem d_La_law_8 : decode b_La_law 8 = .ok (.new 67, 3) := by decide +kernel
theorem d_La_law_11 : decode b_La_law 11 = .ok (.dup, 1) := by decide +kernel
theorem d_La_law_12 : decode b_La_law 12 = .ok (.invokespecial 69, 3) := by decide +kernel
theorem d_La_law_15 : decode b_La_law 15 = .ok (.astore_n 2, 1) := by decide +kernel
theorem d_La_law_16 : decode b_La_law 16 = .ok (.iconst 1, 1) := by decide +kernel
theorem d_La_law_17 : decode b_La_law 17 = .ok (.newarray .long, 2) := by decide +kernel
theorem d_La_law_19 : decode b_La_law 19 = .ok (.astore_n 3, 1) := by decide +kernel
theorem d_La_law_20 : decode b_La_law 20 = .ok (.iconst 0, 1) := by decide +kernel
theorem d_La_law_21 : decode b_La_law 21 = .ok (.istore 4, 2) := by decide +kernel
theorem d_La_law_23 : decode b_La_law 23 = .ok (.iload 4, 2) := by decide +kernel
theorem d_La_law_25 : decode b_La_law 25 = .ok (.aload_n 0, 1) := by decide +kernel
theorem d_La_law_26 : decode b_La_law 26 = .ok (.arraylength, 1) := by decide +kernel
theorem d_La_law_27 : decode b_La_law 27 = .ok (.iconst 5, 1) := by decide +kernel
theorem d_La_law_28 : decode b_La_law 28 = .ok (.isub, 1) := by decide +kernel
theorem d_La_law_29 : decode b_La_law 29 = .ok (.if_icmp .gt 1147, 3) := by decide +kernel
theorem d_La_law_32 : decode b_La_law 32 = .ok (.aload_n 0, 1) := by decide +kernel
theorem d_La_law_33 : decode b_La_law 33 = .ok (.iload 4, 2) := by decide +kernel
theorem d_La_law_35 : decode b_La_law 35 = .ok (.iaload, 1) := by decide +kernel
theorem d_La_law_36 : decode b_La_law 36 = .ok (.bipush 31, 2) := by decide +kernel
theorem d_La_law_38 : decode b_La_law 38 = .ok (.iand, 1) := by decide +kernel
theorem d_La_law_39 : decode b_La_law 39 = .ok (.tableswitch 1131 0 17 #[85, 129, 197, 277, 345, 417, 492, 517, 597, 665, 709, 765, 833, 889, 957, 1037, 1093, 1106], 85) := by decide +kernel
theorem d_La_law_124 : decode b_La_law 124 = .ok (.aload_n 1, 1) := by decide +kernel
theorem d_La_law_125 : decode b_La_law 125 = .ok (.aload_n 3, 1) := by decide +kernel
theorem d_La_law_126 : decode b_La_law 126 = .ok (.invokestatic 70, 3) := by decide +kernel
theorem d_La_law_129 : decode b_La_law 129 = .ok (.istore 5, 2) := by decide +kernel
theorem d_La_law_131 : decode b_La_law 131 = .ok (.aload_n 2, 1) := by decide +kernel
theorem d_La_law_132 : decode b_La_law 132 = .ok (.invokevirtual 75, 3) := by decide +kernel
theorem d_La_law_135 : decode b_La_law 135 = .ok (.istore 6, 2) := by decide +kernel
theorem d_La_law_137 : decode b_La_law 137 = .ok (.aload_n 2, 1) := by decide +kernel
theorem d_La_law_138 : decode b_La_law 138 = .ok (.invokevirtual 76, 3) := by decide +kernel
theorem d_La_law_141 : decode b_La_law 141 = .ok (.iload 5, 2) := by decide +kernel
theorem d_La_law_143 : decode b_La_law 143 = .ok (.if_icmp .eq 5, 3) := by decide +kernel
theorem d_La_law_146 : decode b_La_law 146 = .ok (.iconst 0, 1) := by decide +kernel
theorem d_La_law_147 : decode b_La_law 147 = .ok (.ireturn, 1) := by decide +kernel
theorem d_La_law_148 : decode b_La_law 148 = .ok (.iload 5, 2) := by decide +kernel
theorem d_La_law_150 : decode b_La_law 150 = .ok (.ifCond .ne 15, 3) := by decide +kernel
theorem d_La_law_153 : decode b_La_law 153 = .ok (.aload_n 3, 1) := by decide +kernel
theorem d_La_law_154 : decode b_La_law 154 = .ok (.iconst 0, 1) := by decide +kernel
theorem d_La_law_155 : decode b_La_law 155 = .ok (.laload, 1) := by decide +kernel
theorem d_La_law_156 : decode b_La_law 156 = .ok (.iload 6, 2) := by decide +kernel
theorem d_La_law_158 : decode b_La_law 158 = .ok (.i2l, 1) := by decide +kernel
theorem d_La_law_159 : decode b_La_law 159 = .ok (.lcmp, 1) := by decide +kernel
theorem d_La_law_160 : decode b_La_law 160 = .ok (.ifCond .eq 5, 3) := by decide +kernel
theorem d_La_law_163 : decode b_La_law 163 = .ok (.iconst 0, 1) := by decide +kernel
theorem d_La_law_164 : decode b_La_law 164 = .ok (.ireturn, 1) := by decide +kernel
theorem d_La_law_165 : decode b_La_law 165 = .ok (.goto 1005, 3) := by decide +kernel
theorem d_La_law_168 : decode b_La_law 168 = .ok (.aload_n 1, 1) := by decide +kernel
theorem d_La_law_169 : decode b_La_law 169 = .ok (.aload_n 0, 1) := by decide +kernel
theorem d_La_law_170 : decode b_La_law 170 = .ok (.iload 4, 2) := by decide +kernel
theorem d_La_law_172 : decode b_La_law 172 = .ok (.iconst 1, 1) := by decide +kernel
theorem d_La_law_173 : decode b_La_law 173 = .ok (.iadd, 1) := by decide +kernel
theorem d_La_law_174 : decode b_La_law 174 = .ok (.iaload, 1) := by decide +kernel
theorem d_La_law_175 : decode b_La_law 175 = .ok (.aload_n 0, 1) := by decide +kernel
theorem d_La_law_176 : decode b_La_law 176 = .ok (.iload 4, 2) := by decide +kernel
theorem d_La_law_178 : decode b_La_law 178 = .ok (.iconst 2, 1) := by decide +kernel
theorem d_La_law_179 : decode b_La_law 179 = .ok (.iadd, 1) := by decide +kernel
theorem d_La_law_180 : decode b_La_law 180 = .ok (.iaload, 1) := by decide +kernel
theorem d_La_law_181 : decode b_La_law 181 = .ok (.aload_n 3, 1) := by decide +kernel
theorem d_La_law_182 : decode b_La_law 182 = .ok (.invokestatic 79, 3) := by decide +kernel
theorem d_La_law_185 : decode b_La_law 185 = .ok (.istore 5, 2) := by decide +kernel
theorem d_La_law_187 : decode b_La_law 187 = .ok (.aload_n 2, 1) := by decide +kernel
theorem d_La_law_188 : decode b_La_law 188 = .ok (.aload_n 0, 1) := by decide +kernel
theorem d_La_law_189 : decode b_La_law 189 = .ok (.iload 4, 2) := by decide +kernel
theorem d_La_law_191 : decode b_La_law 191 = .ok (.iconst 1, 1) := by decide +kernel
theorem d_La_law_192 : decode b_La_law 192 = .ok (.iadd, 1) := by decide +kernel
theorem d_La_law_193 : decode b_La_law 193 = .ok (.iaload, 1) := by decide +kernel
theorem d_La_law_194 : decode b_La_law 194 = .ok (.aload_n 0, 1) := by decide +kernel
theorem d_La_law_195 : decode b_La_law 195 = .ok (.iload 4, 2) := by decide +kernel
theorem d_La_law_197 : decode b_La_law 197 = .ok (.iconst 2, 1) := by decide +kernel
theorem d_La_law_198 : decode b_La_law 198 = .ok (.iadd, 1) := by decide +kernel
theorem d_La_law_199 : decode b_La_law 199 = .ok (.iaload, 1) := by decide +kernel
theorem d_La_law_200 : decode b_La_law 200 = .ok (.invokevirtual 82, 3) := by decide +kernel
theorem d_La_law_203 : decode b_La_law 203 = .ok (.istore 6, 2) := by decide +kernel
theorem d_La_law_205 : decode b_La_law 205 = .ok (.aload_n 2, 1) := by decide +kernel
theorem d_La_law_206 : decode b_La_law 206 = .ok (.invokevirtual 76, 3) := by decide +kernel
theorem d_La_law_209 : decode b_La_law 209 = .ok (.iload 5, 2) := by decide +kernel
theorem d_La_law_211 : decode b_La_law 211 = .ok (.if_icmp .eq 5, 3) := by decide +kernel
theorem d_La_law_214 : decode b_La_law 214 = .ok (.iconst 0, 1) := by decide +kernel
theorem d_La_law_215 : decode b_La_law 215 = .ok (.ireturn, 1) := by decide +kernel
theorem d_La_law_216 : decode b_La_law 216 = .ok (.iload 5, 2) := by decide +kernel
theorem d_La_law_218 : decode b_La_law 218 = .ok (.ifCond .ne 15, 3) := by decide +kernel
theorem d_La_law_221 : decode b_La_law 221 = .ok (.aload_n 3, 1) := by decide +kernel
theorem d_La_law_222 : decode b_La_law 222 = .ok (.iconst 0, 1) := by decide +kernel
theorem d_La_law_223 : decode b_La_law 223 = .ok (.laload, 1) := by decide +kernel
theorem d_La_law_224 : decode b_La_law 224 = .ok (.iload 6, 2) := by decide +kernel
theorem d_La_law_226 : decode b_La_law 226 = .ok (.i2l, 1) := by decide +kernel
theorem d_La_law_227 : decode b_La_law 227 = .ok (.lcmp, 1) := by decide +kernel
theorem d_La_law_228 : decode b_La_law 228 = .ok (.ifCond .eq 5, 3) := by decide +kernel
theorem d_La_law_231 : decode b_La_law 231 = .ok (.iconst 0, 1) := by decide +kernel
theorem d_La_law_232 : decode b_La_law 232 = .ok (.ireturn, 1) := by decide +kernel
theorem d_La_law_233 : decode b_La_law 233 = .ok (.goto 937, 3) := by decide +kernel
theorem d_La_law_236 : decode b_La_law 236 = .ok (.aload_n 1, 1) := by decide +kernel
theorem d_La_law_237 : decode b_La_law 237 = .ok (.aload_n 0, 1) := by decide +kernel
theorem d_La_law_238 : decode b_La_law 238 = .ok (.iload 4, 2) := by decide +kernel
theorem d_La_law_240 : decode b_La_law 240 = .ok (.iconst 1, 1) := by decide +kernel
theorem d_La_law_241 : decode b_La_law 241 = .ok (.iadd, 1) := by decide +kernel
theorem d_La_law_242 : decode b_La_law 242 = .ok (.iaload, 1) := by decide +kernel
theorem d_La_law_243 : decode b_La_law 243 = .ok (.aload_n 0, 1) := by decide +kernel
theorem d_La_law_244 : decode b_La_law 244 = .ok (.iload 4, 2) := by decide +kernel
theorem d_La_law_246 : decode b_La_law 246 = .ok (.iconst 2, 1) := by decide +kernel
theorem d_La_law_247 : decode b_La_law 247 = .ok (.iadd, 1) := by decide +kernel
theorem d_La_law_248 : decode b_La_law 248 = .ok (.iaload, 1) := by decide +kernel
theorem d_La_law_249 : decode b_La_law 249 = .ok (.aload_n 0, 1) := by decide +kernel
theorem d_La_law_250 : decode b_La_law 250 = .ok (.iload 4, 2) := by decide +kernel
theorem d_La_law_252 : decode b_La_law 252 = .ok (.iconst 3, 1) := by decide +kernel
theorem d_La_law_253 : decode b_La_law 253 = .ok (.iadd, 1) := by decide +kernel
theorem d_La_law_254 : decode b_La_law 254 = .ok (.iaload, 1) := by decide +kernel
theorem d_La_law_255 : decode b_La_law 255 = .ok (.aload_n 3, 1) := by decide +kernel
theorem d_La_law_256 : decode b_La_law 256 = .ok (.invokestatic 83, 3) := by decide +kernel
theorem d_La_law_259 : decode b_La_law 259 = .ok (.istore 5, 2) := by decide +kernel
theorem d_La_law_261 : decode b_La_law 261 = .ok (.aload_n 2, 1) := by decide +kernel
theorem d_La_law_262 : decode b_La_law 262 = .ok (.aload_n 0, 1) := by decide +kernel
theorem d_La_law_263 : decode b_La_law 263 = .ok (.iload 4, 2) := by decide +kernel
theorem d_La_law_265 : decode b_La_law 265 = .ok (.iconst 1, 1) := by decide +kernel
theorem d_La_law_266 : decode b_La_law 266 = .ok (.iadd, 1) := by decide +kernel
theorem d_La_law_267 : decode b_La_law 267 = .ok (.iaload, 1) := by decide +kernel
theorem d_La_law_268 : decode b_La_law 268 = .ok (.aload_n 0, 1) := by decide +kernel
theorem d_La_law_269 : decode b_La_law 269 = .ok (.iload 4, 2) := by decide +kernel
theorem d_La_law_271 : decode b_La_law 271 = .ok (.iconst 2, 1) := by decide +kernel
theorem d_La_law_272 : decode b_La_law 272 = .ok (.iadd, 1) := by decide +kernel
theorem d_La_law_273 : decode b_La_law 273 = .ok (.iaload, 1) := by decide +kernel
theorem d_La_law_274 : decode b_La_law 274 = .ok (.aload_n 0, 1) := by decide +kernel
theorem d_La_law_275 : decode b_La_law 275 = .ok (.iload 4, 2) := by decide +kernel
theorem d_La_law_277 : decode b_La_law 277 = .ok (.iconst 3, 1) := by decide +kernel
theorem d_La_law_278 : decode b_La_law 278 = .ok (.iadd, 1) := by decide +kernel
theorem d_La_law_279 : decode b_La_law 279 = .ok (.iaload, 1) := by decide +kernel
theorem d_La_law_280 : decode b_La_law 280 = .ok (.invokevirtual 86, 3) := by decide +kernel
theorem d_La_law_283 : decode b_La_law 283 = .ok (.istore 6, 2) := by decide +kernel
theorem d_La_law_285 : decode b_La_law 285 = .ok (.aload_n 2, 1) := by decide +kernel
theorem d_La_law_286 : decode b_La_law 286 = .ok (.invokevirtual 76, 3) := by decide +kernel
theorem d_La_law_289 : decode b_La_law 289 = .ok (.iload 5, 2) := by decide +kernel
theorem d_La_law_291 : decode b_La_law 291 = .ok (.if_icmp .eq 5, 3) := by decide +kernel
theorem d_La_law_294 : decode b_La_law 294 = .ok (.iconst 0, 1) := by decide +kernel
theorem d_La_law_295 : decode b_La_law 295 = .ok (.ireturn, 1) := by decide +kernel
theorem d_La_law_296 : decode b_La_law 296 = .ok (.iload 5, 2) := by decide +kernel
theorem d_La_law_298 : decode b_La_law 298 = .ok (.ifCond .ne 15, 3) := by decide +kernel
theorem d_La_law_301 : decode b_La_law 301 = .ok (.aload_n 3, 1) := by decide +kernel
theorem d_La_law_302 : decode b_La_law 302 = .ok (.iconst 0, 1) := by decide +kernel
theorem d_La_law_303 : decode b_La_law 303 = .ok (.laload, 1) := by decide +kernel
theorem d_La_law_304 : decode b_La_law 304 = .ok (.iload 6, 2) := by decide +kernel
theorem d_La_law_306 : decode b_La_law 306 = .ok (.i2l, 1) := by decide +kernel
theorem d_La_law_307 : decode b_La_law 307 = .ok (.lcmp, 1) := by decide +kernel
theorem d_La_law_308 : decode b_La_law 308 = .ok (.ifCond .eq 5, 3) := by decide +kernel
theorem d_La_law_311 : decode b_La_law 311 = .ok (.iconst 0, 1) := by decide +kernel
theorem d_La_law_312 : decode b_La_law 312 = .ok (.ireturn, 1) := by decide +kernel
theorem d_La_law_313 : decode b_La_law 313 = .ok (.goto 857, 3) := by decide +kernel
theorem d_La_law_316 : decode b_La_law 316 = .ok (.aload_n 1, 1) := by decide +kernel
theorem d_La_law_317 : decode b_La_law 317 = .ok (.aload_n 0, 1) := by decide +kernel
theorem d_La_law_318 : decode b_La_law 318 = .ok (.iload 4, 2) := by decide +kernel
theorem d_La_law_320 : decode b_La_law 320 = .ok (.iconst 1, 1) := by decide +kernel
theorem d_La_law_321 : decode b_La_law 321 = .ok (.iadd, 1) := by decide +kernel
theorem d_La_law_322 : decode b_La_law 322 = .ok (.iaload, 1) := by decide +kernel
theorem d_La_law_323 : decode b_La_law 323 = .ok (.aload_n 0, 1) := by decide +kernel
theorem d_La_law_324 : decode b_La_law 324 = .ok (.iload 4, 2) := by decide +kernel
theorem d_La_law_326 : decode b_La_law 326 = .ok (.iconst 2, 1) := by decide +kernel
theorem d_La_law_327 : decode b_La_law 327 = .ok (.iadd, 1) := by decide +kernel
theorem d_La_law_328 : decode b_La_law 328 = .ok (.iaload, 1) := by decide +kernel
theorem d_La_law_329 : decode b_La_law 329 = .ok (.aload_n 3, 1) := by decide +kernel
theorem d_La_law_330 : decode b_La_law 330 = .ok (.invokestatic 87, 3) := by decide +kernel
theorem d_La_law_333 : decode b_La_law 333 = .ok (.istore 5, 2) := by decide +kernel
theorem d_La_law_335 : decode b_La_law 335 = .ok (.aload_n 2, 1) := by decide +kernel
theorem d_La_law_336 : decode b_La_law 336 = .ok (.aload_n 0, 1) := by decide +kernel
theorem d_La_law_337 : decode b_La_law 337 = .ok (.iload 4, 2) := by decide +kernel
theorem d_La_law_339 : decode b_La_law 339 = .ok (.iconst 1, 1) := by decide +kernel
theorem d_La_law_340 : decode b_La_law 340 = .ok (.iadd, 1) := by decide +kernel
theorem d_La_law_341 : decode b_La_law 341 = .ok (.iaload, 1) := by decide +kernel
theorem d_La_law_342 : decode b_La_law 342 = .ok (.aload_n 0, 1) := by decide +kernel
theorem d_La_law_343 : decode b_La_law 343 = .ok (.iload 4, 2) := by decide +kernel
theorem d_La_law_345 : decode b_La_law 345 = .ok (.iconst 2, 1) := by decide +kernel
theorem d_La_law_346 : decode b_La_law 346 = .ok (.iadd, 1) := by decide +kernel
theorem d_La_law_347 : decode b_La_law 347 = .ok (.iaload, 1) := by decide +kernel
theorem d_La_law_348 : decode b_La_law 348 = .ok (.invokevirtual 89, 3) := by decide +kernel
theorem d_La_law_351 : decode b_La_law 351 = .ok (.istore 6, 2) := by decide +kernel
theorem d_La_law_353 : decode b_La_law 353 = .ok (.aload_n 2, 1) := by decide +kernel
theorem d_La_law_354 : decode b_La_law 354 = .ok (.invokevirtual 76, 3) := by decide +kernel
theorem d_La_law_357 : decode b_La_law 357 = .ok (.iload 5, 2) := by decide +kernel
theorem d_La_law_359 : decode b_La_law 359 = .ok (.if_icmp .eq 5, 3) := by decide +kernel
theorem d_La_law_362 : decode b_La_law 362 = .ok (.iconst 0, 1) := by decide +kernel
theorem d_La_law_363 : decode b_La_law 363 = .ok (.ireturn, 1) := by decide +kernel
theorem d_La_law_364 : decode b_La_law 364 = .ok (.iload 5, 2) := by decide +kernel
theorem d_La_law_366 : decode b_La_law 366 = .ok (.ifCond .ne 15, 3) := by decide +kernel
theorem d_La_law_369 : decode b_La_law 369 = .ok (.aload_n 3, 1) := by decide +kernel
theorem d_La_law_370 : decode b_La_law 370 = .ok (.iconst 0, 1) := by decide +kernel
theorem d_La_law_371 : decode b_La_law 371 = .ok (.laload, 1) := by decide +kernel
theorem d_La_law_372 : decode b_La_law 372 = .ok (.iload 6, 2) := by decide +kernel
theorem d_La_law_374 : decode b_La_law 374 = .ok (.i2l, 1) := by decide +kernel
theorem d_La_law_375 : decode b_La_law 375 = .ok (.lcmp, 1) := by decide +kernel
theorem d_La_law_376 : decode b_La_law 376 = .ok (.ifCond .eq 5, 3) := by decide +kernel
theorem d_La_law_379 : decode b_La_law 379 = .ok (.iconst 0, 1) := by decide +kernel
theorem d_La_law_380 : decode b_La_law 380 = .ok (.ireturn, 1) := by decide +kernel
theorem d_La_law_381 : decode b_La_law 381 = .ok (.goto 789, 3) := by decide +kernel
theorem d_La_law_384 : decode b_La_law 384 = .ok (.aload_n 1, 1) := by decide +kernel
theorem d_La_law_385 : decode b_La_law 385 = .ok (.aload_n 0, 1) := by decide +kernel
theorem d_La_law_386 : decode b_La_law 386 = .ok (.iload 4, 2) := by decide +kernel
theorem d_La_law_388 : decode b_La_law 388 = .ok (.iconst 1, 1) := by decide +kernel
theorem d_La_law_389 : decode b_La_law 389 = .ok (.iadd, 1) := by decide +kernel
theorem d_La_law_390 : decode b_La_law 390 = .ok (.iaload, 1) := by decide +kernel
theorem d_La_law_391 : decode b_La_law 391 = .ok (.aload_n 0, 1) := by decide +kernel
theorem d_La_law_392 : decode b_La_law 392 = .ok (.iload 4, 2) := by decide +kernel
theorem d_La_law_394 : decode b_La_law 394 = .ok (.iconst 2, 1) := by decide +kernel
theorem d_La_law_395 : decode b_La_law 395 = .ok (.iadd, 1) := by decide +kernel
theorem d_La_law_396 : decode b_La_law 396 = .ok (.iaload, 1) := by decide +kernel
theorem d_La_law_397 : decode b_La_law 397 = .ok (.aload_n 0, 1) := by decide +kernel
theorem d_La_law_398 : decode b_La_law 398 = .ok (.iload 4, 2) := by decide +kernel
theorem d_La_law_400 : decode b_La_law 400 = .ok (.iconst 3, 1) := by decide +kernel
theorem d_La_law_401 : decode b_La_law 401 = .ok (.iadd, 1) := by decide +kernel
theorem d_La_law_402 : decode b_La_law 402 = .ok (.iaload, 1) := by decide +kernel
theorem d_La_law_403 : decode b_La_law 403 = .ok (.aload_n 0, 1) := by decide +kernel
theorem d_La_law_404 : decode b_La_law 404 = .ok (.iload 4, 2) := by decide +kernel
theorem d_La_law_406 : decode b_La_law 406 = .ok (.iconst 4, 1) := by decide +kernel
theorem d_La_law_407 : decode b_La_law 407 = .ok (.iadd, 1) := by decide +kernel
theorem d_La_law_408 : decode b_La_law 408 = .ok (.iaload, 1) := by decide +kernel
theorem d_La_law_409 : decode b_La_law 409 = .ok (.invokestatic 90, 3) := by decide +kernel
theorem d_La_law_412 : decode b_La_law 412 = .ok (.istore 5, 2) := by decide +kernel
theorem d_La_law_414 : decode b_La_law 414 = .ok (.aload_n 2, 1) := by decide +kernel
theorem d_La_law_415 : decode b_La_law 415 = .ok (.aload_n 0, 1) := by decide +kernel
theorem d_La_law_416 : decode b_La_law 416 = .ok (.iload 4, 2) := by decide +kernel
theorem d_La_law_418 : decode b_La_law 418 = .ok (.iconst 1, 1) := by decide +kernel
theorem d_La_law_419 : decode b_La_law 419 = .ok (.iadd, 1) := by decide +kernel
theorem d_La_law_420 : decode b_La_law 420 = .ok (.iaload, 1) := by decide +kernel
theorem d_La_law_421 : decode b_La_law 421 = .ok (.aload_n 0, 1) := by decide +kernel
theorem d_La_law_422 : decode b_La_law 422 = .ok (.iload 4, 2) := by decide +kernel
theorem d_La_law_424 : decode b_La_law 424 = .ok (.iconst 2, 1) := by decide +kernel
theorem d_La_law_425 : decode b_La_law 425 = .ok (.iadd, 1) := by decide +kernel
theorem d_La_law_426 : decode b_La_law 426 = .ok (.iaload, 1) := by decide +kernel
theorem d_La_law_427 : decode b_La_law 427 = .ok (.aload_n 0, 1) := by decide +kernel
theorem d_La_law_428 : decode b_La_law 428 = .ok (.iload 4, 2) := by decide +kernel
theorem d_La_law_430 : decode b_La_law 430 = .ok (.iconst 3, 1) := by decide +kernel
theorem d_La_law_431 : decode b_La_law 431 = .ok (.iadd, 1) := by decide +kernel
theorem d_La_law_432 : decode b_La_law 432 = .ok (.iaload, 1) := by decide +kernel
theorem d_La_law_433 : decode b_La_law 433 = .ok (.aload_n 0, 1) := by decide +kernel
theorem d_La_law_434 : decode b_La_law 434 = .ok (.iload 4, 2) := by decide +kernel
theorem d_La_law_436 : decode b_La_law 436 = .ok (.iconst 4, 1) := by decide +kernel
theorem d_La_law_437 : decode b_La_law 437 = .ok (.iadd, 1) := by decide +kernel
theorem d_La_law_438 : decode b_La_law 438 = .ok (.iaload, 1) := by decide +kernel
theorem d_La_law_439 : decode b_La_law 439 = .ok (.invokevirtual 93, 3) := by decide +kernel
theorem d_La_law_442 : decode b_La_law 442 = .ok (.aload_n 2, 1) := by decide +kernel
theorem d_La_law_443 : decode b_La_law 443 = .ok (.invokevirtual 76, 3) := by decide +kernel
theorem d_La_law_446 : decode b_La_law 446 = .ok (.iload 5, 2) := by decide +kernel
theorem d_La_law_448 : decode b_La_law 448 = .ok (.if_icmp .eq 5, 3) := by decide +kernel
theorem d_La_law_451 : decode b_La_law 451 = .ok (.iconst 0, 1) := by decide +kernel
theorem d_La_law_452 : decode b_La_law 452 = .ok (.ireturn, 1) := by decide +kernel
theorem d_La_law_453 : decode b_La_law 453 = .ok (.goto 717, 3) := by decide +kernel
theorem d_La_law_456 : decode b_La_law 456 = .ok (.aload_n 1, 1) := by decide +kernel
theorem d_La_law_457 : decode b_La_law 457 = .ok (.aload_n 0, 1) := by decide +kernel
theorem d_La_law_458 : decode b_La_law 458 = .ok (.iload 4, 2) := by decide +kernel
theorem d_La_law_460 : decode b_La_law 460 = .ok (.iconst 1, 1) := by decide +kernel
theorem d_La_law_461 : decode b_La_law 461 = .ok (.iadd, 1) := by decide +kernel
theorem d_La_law_462 : decode b_La_law 462 = .ok (.iaload, 1) := by decide +kernel
theorem d_La_law_463 : decode b_La_law 463 = .ok (.aload_n 0, 1) := by decide +kernel
theorem d_La_law_464 : decode b_La_law 464 = .ok (.iload 4, 2) := by decide +kernel
theorem d_La_law_466 : decode b_La_law 466 = .ok (.iconst 2, 1) := by decide +kernel
theorem d_La_law_467 : decode b_La_law 467 = .ok (.iadd, 1) := by decide +kernel
theorem d_La_law_468 : decode b_La_law 468 = .ok (.iaload, 1) := by decide +kernel
theorem d_La_law_469 : decode b_La_law 469 = .ok (.aload_n 3, 1) := by decide +kernel
theorem d_La_law_470 : decode b_La_law 470 = .ok (.invokestatic 94, 3) := by decide +kernel
theorem d_La_law_473 : decode b_La_law 473 = .ok (.istore 5, 2) := by decide +kernel
theorem d_La_law_475 : decode b_La_law 475 = .ok (.aload_n 2, 1) := by decide +kernel
theorem d_La_law_476 : decode b_La_law 476 = .ok (.aload_n 0, 1) := by decide +kernel
theorem d_La_law_477 : decode b_La_law 477 = .ok (.iload 4, 2) := by decide +kernel
theorem d_La_law_479 : decode b_La_law 479 = .ok (.iconst 1, 1) := by decide +kernel
theorem d_La_law_480 : decode b_La_law 480 = .ok (.iadd, 1) := by decide +kernel
theorem d_La_law_481 : decode b_La_law 481 = .ok (.iaload, 1) := by decide +kernel
theorem d_La_law_482 : decode b_La_law 482 = .ok (.aload_n 0, 1) := by decide +kernel
theorem d_La_law_483 : decode b_La_law 483 = .ok (.iload 4, 2) := by decide +kernel
theorem d_La_law_485 : decode b_La_law 485 = .ok (.iconst 2, 1) := by decide +kernel
theorem d_La_law_486 : decode b_La_law 486 = .ok (.iadd, 1) := by decide +kernel
theorem d_La_law_487 : decode b_La_law 487 = .ok (.iaload, 1) := by decide +kernel
theorem d_La_law_488 : decode b_La_law 488 = .ok (.invokevirtual 96, 3) := by decide +kernel
theorem d_La_law_491 : decode b_La_law 491 = .ok (.istore 6, 2) := by decide +kernel
theorem d_La_law_493 : decode b_La_law 493 = .ok (.aload_n 2, 1) := by decide +kernel
theorem d_La_law_494 : decode b_La_law 494 = .ok (.invokevirtual 76, 3) := by decide +kernel
theorem d_La_law_497 : decode b_La_law 497 = .ok (.iload 5, 2) := by decide +kernel
theorem d_La_law_499 : decode b_La_law 499 = .ok (.if_icmp .eq 5, 3) := by decide +kernel
theorem d_La_law_502 : decode b_La_law 502 = .ok (.iconst 0, 1) := by decide +kernel
theorem d_La_law_503 : decode b_La_law 503 = .ok (.ireturn, 1) := by decide +kernel
theorem d_La_law_504 : decode b_La_law 504 = .ok (.iload 5, 2) := by decide +kernel
theorem d_La_law_506 : decode b_La_law 506 = .ok (.ifCond .ne 22, 3) := by decide +kernel
theorem d_La_law_509 : decode b_La_law 509 = .ok (.aload_n 3, 1) := by decide +kernel
theorem d_La_law_510 : decode b_La_law 510 = .ok (.iconst 0, 1) := by decide +kernel
theorem d_La_law_511 : decode b_La_law 511 = .ok (.laload, 1) := by decide +kernel
theorem d_La_law_512 : decode b_La_law 512 = .ok (.iload 6, 2) := by decide +kernel
theorem d_La_law_514 : decode b_La_law 514 = .ok (.ifCond .eq 7, 3) := by decide +kernel
theorem d_La_law_517 : decode b_La_law 517 = .ok (.lconst 1, 1) := by decide +kernel
theorem d_La_law_518 : decode b_La_law 518 = .ok (.goto 4, 3) := by decide +kernel
theorem d_La_law_521 : decode b_La_law 521 = .ok (.lconst 0, 1) := by decide +kernel
theorem d_La_law_522 : decode b_La_law 522 = .ok (.lcmp, 1) := by decide +kernel
theorem d_La_law_523 : decode b_La_law 523 = .ok (.ifCond .eq 5, 3) := by decide +kernel
theorem d_La_law_526 : decode b_La_law 526 = .ok (.iconst 0, 1) := by decide +kernel
theorem d_La_law_527 : decode b_La_law 527 = .ok (.ireturn, 1) := by decide +kernel
theorem d_La_law_528 : decode b_La_law 528 = .ok (.goto 642, 3) := by decide +kernel
theorem d_La_law_531 : decode b_La_law 531 = .ok (.aload_n 1, 1) := by decide +kernel
theorem d_La_law_532 : decode b_La_law 532 = .ok (.aload_n 0, 1) := by decide +kernel
theorem d_La_law_533 : decode b_La_law 533 = .ok (.iload 4, 2) := by decide +kernel
theorem d_La_law_535 : decode b_La_law 535 = .ok (.iconst 1, 1) := by decide +kernel
theorem d_La_law_536 : decode b_La_law 536 = .ok (.iadd, 1) := by decide +kernel
theorem d_La_law_537 : decode b_La_law 537 = .ok (.iaload, 1) := by decide +kernel
theorem d_La_law_538 : decode b_La_law 538 = .ok (.invokevirtual 97, 3) := by decide +kernel
theorem d_La_law_541 : decode b_La_law 541 = .ok (.aload_n 2, 1) := by decide +kernel
theorem d_La_law_542 : decode b_La_law 542 = .ok (.aload_n 0, 1) := by decide +kernel
theorem d_La_law_543 : decode b_La_law 543 = .ok (.iload 4, 2) := by decide +kernel
theorem d_La_law_545 : decode b_La_law 545 = .ok (.iconst 1, 1) := by decide +kernel
theorem d_La_law_546 : decode b_La_law 546 = .ok (.iadd, 1) := by decide +kernel
theorem d_La_law_547 : decode b_La_law 547 = .ok (.iaload, 1) := by decide +kernel
theorem d_La_law_548 : decode b_La_law 548 = .ok (.invokevirtual 100, 3) := by decide +kernel
theorem d_La_law_551 : decode b_La_law 551 = .ok (.if_icmp .eq 619, 3) := by decide +kernel
theorem d_La_law_554 : decode b_La_law 554 = .ok (.iconst 0, 1) := by decide +kernel
theorem d_La_law_555 : decode b_La_law 555 = .ok (.ireturn, 1) := by decide +kernel
theorem d_La_law_556 : decode b_La_law 556 = .ok (.aload_n 1, 1) := by decide +kernel
theorem d_La_law_557 : decode b_La_law 557 = .ok (.aload_n 0, 1) := by decide +kernel
theorem d_La_law_558 : decode b_La_law 558 = .ok (.iload 4, 2) := by decide +kernel
theorem d_La_law_560 : decode b_La_law 560 = .ok (.iconst 1, 1) := by decide +kernel
theorem d_La_law_561 : decode b_La_law 561 = .ok (.iadd, 1) := by decide +kernel
theorem d_La_law_562 : decode b_La_law 562 = .ok (.iaload, 1) := by decide +kernel
theorem d_La_law_563 : decode b_La_law 563 = .ok (.aload_n 0, 1) := by decide +kernel
theorem d_La_law_564 : decode b_La_law 564 = .ok (.iload 4, 2) := by decide +kernel
theorem d_La_law_566 : decode b_La_law 566 = .ok (.iconst 2, 1) := by decide +kernel
theorem d_La_law_567 : decode b_La_law 567 = .ok (.iadd, 1) := by decide +kernel
theorem d_La_law_568 : decode b_La_law 568 = .ok (.iaload, 1) := by decide +kernel
theorem d_La_law_569 : decode b_La_law 569 = .ok (.aload_n 0, 1) := by decide +kernel
theorem d_La_law_570 : decode b_La_law 570 = .ok (.iload 4, 2) := by decide +kernel
theorem d_La_law_572 : decode b_La_law 572 = .ok (.iconst 3, 1) := by decide +kernel
theorem d_La_law_573 : decode b_La_law 573 = .ok (.iadd, 1) := by decide +kernel
theorem d_La_law_574 : decode b_La_law 574 = .ok (.iaload, 1) := by decide +kernel
theorem d_La_law_575 : decode b_La_law 575 = .ok (.aload_n 3, 1) := by decide +kernel
theorem d_La_law_576 : decode b_La_law 576 = .ok (.invokestatic 101, 3) := by decide +kernel
theorem d_La_law_579 : decode b_La_law 579 = .ok (.istore 5, 2) := by decide +kernel
theorem d_La_law_581 : decode b_La_law 581 = .ok (.aload_n 2, 1) := by decide +kernel
theorem d_La_law_582 : decode b_La_law 582 = .ok (.aload_n 0, 1) := by decide +kernel
theorem d_La_law_583 : decode b_La_law 583 = .ok (.iload 4, 2) := by decide +kernel
theorem d_La_law_585 : decode b_La_law 585 = .ok (.iconst 1, 1) := by decide +kernel
theorem d_La_law_586 : decode b_La_law 586 = .ok (.iadd, 1) := by decide +kernel
theorem d_La_law_587 : decode b_La_law 587 = .ok (.iaload, 1) := by decide +kernel
theorem d_La_law_588 : decode b_La_law 588 = .ok (.aload_n 0, 1) := by decide +kernel
theorem d_La_law_589 : decode b_La_law 589 = .ok (.iload 4, 2) := by decide +kernel
theorem d_La_law_591 : decode b_La_law 591 = .ok (.iconst 2, 1) := by decide +kernel
theorem d_La_law_592 : decode b_La_law 592 = .ok (.iadd, 1) := by decide +kernel
theorem d_La_law_593 : decode b_La_law 593 = .ok (.iaload, 1) := by decide +kernel
theorem d_La_law_594 : decode b_La_law 594 = .ok (.aload_n 0, 1) := by decide +kernel
theorem d_La_law_595 : decode b_La_law 595 = .ok (.iload 4, 2) := by decide +kernel
theorem d_La_law_597 : decode b_La_law 597 = .ok (.iconst 3, 1) := by decide +kernel
theorem d_La_law_598 : decode b_La_law 598 = .ok (.iadd, 1) := by decide +kernel
theorem d_La_law_599 : decode b_La_law 599 = .ok (.iaload, 1) := by decide +kernel
theorem d_La_law_600 : decode b_La_law 600 = .ok (.invokevirtual 103, 3) := by decide +kernel
theorem d_La_law_603 : decode b_La_law 603 = .ok (.istore 6, 2) := by decide +kernel
theorem d_La_law_605 : decode b_La_law 605 = .ok (.aload_n 2, 1) := by decide +kernel
theorem d_La_law_606 : decode b_La_law 606 = .ok (.invokevirtual 76, 3) := by decide +kernel
theorem d_La_law_609 : decode b_La_law 609 = .ok (.iload 5, 2) := by decide +kernel
theorem d_La_law_611 : decode b_La_law 611 = .ok (.if_icmp .eq 5, 3) := by decide +kernel
theorem d_La_law_614 : decode b_La_law 614 = .ok (.iconst 0, 1) := by decide +kernel
theorem d_La_law_615 : decode b_La_law 615 = .ok (.ireturn, 1) := by decide +kernel
theorem d_La_law_616 : decode b_La_law 616 = .ok (.iload 5, 2) := by decide +kernel
theorem d_La_law_618 : decode b_La_law 618 = .ok (.ifCond .ne 15, 3) := by decide +kernel
theorem d_La_law_621 : decode b_La_law 621 = .ok (.aload_n 3, 1) := by decide +kernel
theorem d_La_law_622 : decode b_La_law 622 = .ok (.iconst 0, 1) := by decide +kernel
theorem d_La_law_623 : decode b_La_law 623 = .ok (.laload, 1) := by decide +kernel
theorem d_La_law_624 : decode b_La_law 624 = .ok (.iload 6, 2) := by decide +kernel
theorem d_La_law_626 : decode b_La_law 626 = .ok (.i2l, 1) := by decide +kernel
theorem d_La_law_627 : decode b_La_law 627 = .ok (.lcmp, 1) := by decide +kernel
theorem d_La_law_628 : decode b_La_law 628 = .ok (.ifCond .eq 5, 3) := by decide +kernel
theorem d_La_law_631 : decode b_La_law 631 = .ok (.iconst 0, 1) := by decide +kernel
theorem d_La_law_632 : decode b_La_law 632 = .ok (.ireturn, 1) := by decide +kernel
theorem d_La_law_633 : decode b_La_law 633 = .ok (.goto 537, 3) := by decide +kernel
theorem d_La_law_636 : decode b_La_law 636 = .ok (.aload_n 1, 1) := by decide +kernel
theorem d_La_law_637 : decode b_La_law 637 = .ok (.aload_n 0, 1) := by decide +kernel
theorem d_La_law_638 : decode b_La_law 638 = .ok (.iload 4, 2) := by decide +kernel
theorem d_La_law_640 : decode b_La_law 640 = .ok (.iconst 1, 1) := by decide +kernel
theorem d_La_law_641 : decode b_La_law 641 = .ok (.iadd, 1) := by decide +kernel
theorem d_La_law_642 : decode b_La_law 642 = .ok (.iaload, 1) := by decide +kernel
theorem d_La_law_643 : decode b_La_law 643 = .ok (.aload_n 0, 1) := by decide +kernel
theorem d_La_law_644 : decode b_La_law 644 = .ok (.iload 4, 2) := by decide +kernel
theorem d_La_law_646 : decode b_La_law 646 = .ok (.iconst 2, 1) := by decide +kernel
theorem d_La_law_647 : decode b_La_law 647 = .ok (.iadd, 1) := by decide +kernel
theorem d_La_law_648 : decode b_La_law 648 = .ok (.iaload, 1) := by decide +kernel
theorem d_La_law_649 : decode b_La_law 649 = .ok (.aload_n 3, 1) := by decide +kernel
theorem d_La_law_650 : decode b_La_law 650 = .ok (.invokestatic 104, 3) := by decide +kernel
theorem d_La_law_653 : decode b_La_law 653 = .ok (.istore 5, 2) := by decide +kernel
theorem d_La_law_655 : decode b_La_law 655 = .ok (.aload_n 2, 1) := by decide +kernel
theorem d_La_law_656 : decode b_La_law 656 = .ok (.aload_n 0, 1) := by decide +kernel
theorem d_La_law_657 : decode b_La_law 657 = .ok (.iload 4, 2) := by decide +kernel
theorem d_La_law_659 : decode b_La_law 659 = .ok (.iconst 1, 1) := by decide +kernel
theorem d_La_law_660 : decode b_La_law 660 = .ok (.iadd, 1) := by decide +kernel
theorem d_La_law_661 : decode b_La_law 661 = .ok (.iaload, 1) := by decide +kernel
theorem d_La_law_662 : decode b_La_law 662 = .ok (.aload_n 0, 1) := by decide +kernel
theorem d_La_law_663 : decode b_La_law 663 = .ok (.iload 4, 2) := by decide +kernel
theorem d_La_law_665 : decode b_La_law 665 = .ok (.iconst 2, 1) := by decide +kernel
theorem d_La_law_666 : decode b_La_law 666 = .ok (.iadd, 1) := by decide +kernel
theorem d_La_law_667 : decode b_La_law 667 = .ok (.iaload, 1) := by decide +kernel
theorem d_La_law_668 : decode b_La_law 668 = .ok (.invokevirtual 106, 3) := by decide +kernel
theorem d_La_law_671 : decode b_La_law 671 = .ok (.istore 6, 2) := by decide +kernel
theorem d_La_law_673 : decode b_La_law 673 = .ok (.aload_n 2, 1) := by decide +kernel
theorem d_La_law_674 : decode b_La_law 674 = .ok (.invokevirtual 76, 3) := by decide +kernel
theorem d_La_law_677 : decode b_La_law 677 = .ok (.iload 5, 2) := by decide +kernel
theorem d_La_law_679 : decode b_La_law 679 = .ok (.if_icmp .eq 5, 3) := by decide +kernel
theorem d_La_law_682 : decode b_La_law 682 = .ok (.iconst 0, 1) := by decide +kernel
theorem d_La_law_683 : decode b_La_law 683 = .ok (.ireturn, 1) := by decide +kernel
theorem d_La_law_684 : decode b_La_law 684 = .ok (.iload 5, 2) := by decide +kernel
theorem d_La_law_686 : decode b_La_law 686 = .ok (.ifCond .ne 15, 3) := by decide +kernel
theorem d_La_law_689 : decode b_La_law 689 = .ok (.aload_n 3, 1) := by decide +kernel
theorem d_La_law_690 : decode b_La_law 690 = .ok (.iconst 0, 1) := by decide +kernel
theorem d_La_law_691 : decode b_La_law 691 = .ok (.laload, 1) := by decide +kernel
theorem d_La_law_692 : decode b_La_law 692 = .ok (.iload 6, 2) := by decide +kernel
theorem d_La_law_694 : decode b_La_law 694 = .ok (.i2l, 1) := by decide +kernel
theorem d_La_law_695 : decode b_La_law 695 = .ok (.lcmp, 1) := by decide +kernel
theorem d_La_law_696 : decode b_La_law 696 = .ok (.ifCond .eq 5, 3) := by decide +kernel
theorem d_La_law_699 : decode b_La_law 699 = .ok (.iconst 0, 1) := by decide +kernel
theorem d_La_law_700 : decode b_La_law 700 = .ok (.ireturn, 1) := by decide +kernel
theorem d_La_law_701 : decode b_La_law 701 = .ok (.goto 469, 3) := by decide +kernel
theorem d_La_law_704 : decode b_La_law 704 = .ok (.aload_n 1, 1) := by decide +kernel
theorem d_La_law_705 : decode b_La_law 705 = .ok (.aload_n 3, 1) := by decide +kernel
theorem d_La_law_706 : decode b_La_law 706 = .ok (.invokestatic 107, 3) := by decide +kernel
theorem d_La_law_709 : decode b_La_law 709 = .ok (.istore 5, 2) := by decide +kernel
theorem d_La_law_711 : decode b_La_law 711 = .ok (.aload_n 2, 1) := by decide +kernel
theorem d_La_law_712 : decode b_La_law 712 = .ok (.invokevirtual 109, 3) := by decide +kernel
theorem d_La_law_715 : decode b_La_law 715 = .ok (.istore 6, 2) := by decide +kernel
theorem d_La_law_717 : decode b_La_law 717 = .ok (.aload_n 2, 1) := by decide +kernel
theorem d_La_law_718 : decode b_La_law 718 = .ok (.invokevirtual 76, 3) := by decide +kernel
theorem d_La_law_721 : decode b_La_law 721 = .ok (.iload 5, 2) := by decide +kernel
theorem d_La_law_723 : decode b_La_law 723 = .ok (.if_icmp .eq 5, 3) := by decide +kernel
theorem d_La_law_726 : decode b_La_law 726 = .ok (.iconst 0, 1) := by decide +kernel
theorem d_La_law_727 : decode b_La_law 727 = .ok (.ireturn, 1) := by decide +kernel
theorem d_La_law_728 : decode b_La_law 728 = .ok (.iload 5, 2) := by decide +kernel
theorem d_La_law_730 : decode b_La_law 730 = .ok (.ifCond .ne 15, 3) := by decide +kernel
theorem d_La_law_733 : decode b_La_law 733 = .ok (.aload_n 3, 1) := by decide +kernel
theorem d_La_law_734 : decode b_La_law 734 = .ok (.iconst 0, 1) := by decide +kernel
theorem d_La_law_735 : decode b_La_law 735 = .ok (.laload, 1) := by decide +kernel
theorem d_La_law_736 : decode b_La_law 736 = .ok (.iload 6, 2) := by decide +kernel
theorem d_La_law_738 : decode b_La_law 738 = .ok (.i2l, 1) := by decide +kernel
theorem d_La_law_739 : decode b_La_law 739 = .ok (.lcmp, 1) := by decide +kernel
theorem d_La_law_740 : decode b_La_law 740 = .ok (.ifCond .eq 5, 3) := by decide +kernel
theorem d_La_law_743 : decode b_La_law 743 = .ok (.iconst 0, 1) := by decide +kernel
theorem d_La_law_744 : decode b_La_law 744 = .ok (.ireturn, 1) := by decide +kernel
theorem d_La_law_745 : decode b_La_law 745 = .ok (.goto 425, 3) := by decide +kernel
theorem d_La_law_748 : decode b_La_law 748 = .ok (.aload_n 1, 1) := by decide +kernel
theorem d_La_law_749 : decode b_La_law 749 = .ok (.aload_n 0, 1) := by decide +kernel
theorem d_La_law_750 : decode b_La_law 750 = .ok (.iload 4, 2) := by decide +kernel
theorem d_La_law_752 : decode b_La_law 752 = .ok (.iconst 1, 1) := by decide +kernel
theorem d_La_law_753 : decode b_La_law 753 = .ok (.iadd, 1) := by decide +kernel
theorem d_La_law_754 : decode b_La_law 754 = .ok (.iaload, 1) := by decide +kernel
theorem d_La_law_755 : decode b_La_law 755 = .ok (.aload_n 3, 1) := by decide +kernel
theorem d_La_law_756 : decode b_La_law 756 = .ok (.invokestatic 110, 3) := by decide +kernel
theorem d_La_law_759 : decode b_La_law 759 = .ok (.istore 5, 2) := by decide +kernel
theorem d_La_law_761 : decode b_La_law 761 = .ok (.aload_n 2, 1) := by decide +kernel
theorem d_La_law_762 : decode b_La_law 762 = .ok (.aload_n 0, 1) := by decide +kernel
theorem d_La_law_763 : decode b_La_law 763 = .ok (.iload 4, 2) := by decide +kernel
theorem d_La_law_765 : decode b_La_law 765 = .ok (.iconst 1, 1) := by decide +kernel
theorem d_La_law_766 : decode b_La_law 766 = .ok (.iadd, 1) := by decide +kernel
theorem d_La_law_767 : decode b_La_law 767 = .ok (.iaload, 1) := by decide +kernel
theorem d_La_law_768 : decode b_La_law 768 = .ok (.invokevirtual 113, 3) := by decide +kernel
theorem d_La_law_771 : decode b_La_law 771 = .ok (.istore 6, 2) := by decide +kernel
theorem d_La_law_773 : decode b_La_law 773 = .ok (.aload_n 2, 1) := by decide +kernel
theorem d_La_law_774 : decode b_La_law 774 = .ok (.invokevirtual 76, 3) := by decide +kernel
theorem d_La_law_777 : decode b_La_law 777 = .ok (.iload 5, 2) := by decide +kernel
theorem d_La_law_779 : decode b_La_law 779 = .ok (.if_icmp .eq 5, 3) := by decide +kernel
theorem d_La_law_782 : decode b_La_law 782 = .ok (.iconst 0, 1) := by decide +kernel
theorem d_La_law_783 : decode b_La_law 783 = .ok (.ireturn, 1) := by decide +kernel
theorem d_La_law_784 : decode b_La_law 784 = .ok (.iload 5, 2) := by decide +kernel
theorem d_La_law_786 : decode b_La_law 786 = .ok (.ifCond .ne 15, 3) := by decide +kernel
theorem d_La_law_789 : decode b_La_law 789 = .ok (.aload_n 3, 1) := by decide +kernel
theorem d_La_law_790 : decode b_La_law 790 = .ok (.iconst 0, 1) := by decide +kernel
theorem d_La_law_791 : decode b_La_law 791 = .ok (.laload, 1) := by decide +kernel
theorem d_La_law_792 : decode b_La_law 792 = .ok (.iload 6, 2) := by decide +kernel
theorem d_La_law_794 : decode b_La_law 794 = .ok (.i2l, 1) := by decide +kernel
theorem d_La_law_795 : decode b_La_law 795 = .ok (.lcmp, 1) := by decide +kernel
theorem d_La_law_796 : decode b_La_law 796 = .ok (.ifCond .eq 5, 3) := by decide +kernel
theorem d_La_law_799 : decode b_La_law 799 = .ok (.iconst 0, 1) := by decide +kernel
theorem d_La_law_800 : decode b_La_law 800 = .ok (.ireturn, 1) := by decide +kernel
theorem d_La_law_801 : decode b_La_law 801 = .ok (.goto 369, 3) := by decide +kernel
theorem d_La_law_804 : decode b_La_law 804 = .ok (.aload_n 1, 1) := by decide +kernel
theorem d_La_law_805 : decode b_La_law 805 = .ok (.aload_n 0, 1) := by decide +kernel
theorem d_La_law_806 : decode b_La_law 806 = .ok (.iload 4, 2) := by decide +kernel
theorem d_La_law_808 : decode b_La_law 808 = .ok (.iconst 1, 1) := by decide +kernel
theorem d_La_law_809 : decode b_La_law 809 = .ok (.iadd, 1) := by decide +kernel
theorem d_La_law_810 : decode b_La_law 810 = .ok (.iaload, 1) := by decide +kernel
theorem d_La_law_811 : decode b_La_law 811 = .ok (.aload_n 0, 1) := by decide +kernel
theorem d_La_law_812 : decode b_La_law 812 = .ok (.iload 4, 2) := by decide +kernel
theorem d_La_law_814 : decode b_La_law 814 = .ok (.iconst 2, 1) := by decide +kernel
theorem d_La_law_815 : decode b_La_law 815 = .ok (.iadd, 1) := by decide +kernel
theorem d_La_law_816 : decode b_La_law 816 = .ok (.iaload, 1) := by decide +kernel
theorem d_La_law_817 : decode b_La_law 817 = .ok (.aload_n 3, 1) := by decide +kernel
theorem d_La_law_818 : decode b_La_law 818 = .ok (.invokestatic 114, 3) := by decide +kernel
theorem d_La_law_821 : decode b_La_law 821 = .ok (.istore 5, 2) := by decide +kernel
theorem d_La_law_823 : decode b_La_law 823 = .ok (.aload_n 2, 1) := by decide +kernel
theorem d_La_law_824 : decode b_La_law 824 = .ok (.aload_n 0, 1) := by decide +kernel
theorem d_La_law_825 : decode b_La_law 825 = .ok (.iload 4, 2) := by decide +kernel
theorem d_La_law_827 : decode b_La_law 827 = .ok (.iconst 1, 1) := by decide +kernel
theorem d_La_law_828 : decode b_La_law 828 = .ok (.iadd, 1) := by decide +kernel
theorem d_La_law_829 : decode b_La_law 829 = .ok (.iaload, 1) := by decide +kernel
theorem d_La_law_830 : decode b_La_law 830 = .ok (.aload_n 0, 1) := by decide +kernel
theorem d_La_law_831 : decode b_La_law 831 = .ok (.iload 4, 2) := by decide +kernel
theorem d_La_law_833 : decode b_La_law 833 = .ok (.iconst 2, 1) := by decide +kernel
theorem d_La_law_834 : decode b_La_law 834 = .ok (.iadd, 1) := by decide +kernel
theorem d_La_law_835 : decode b_La_law 835 = .ok (.iaload, 1) := by decide +kernel
theorem d_La_law_836 : decode b_La_law 836 = .ok (.invokevirtual 116, 3) := by decide +kernel
theorem d_La_law_839 : decode b_La_law 839 = .ok (.istore 6, 2) := by decide +kernel
theorem d_La_law_841 : decode b_La_law 841 = .ok (.aload_n 2, 1) := by decide +kernel
theorem d_La_law_842 : decode b_La_law 842 = .ok (.invokevirtual 76, 3) := by decide +kernel
theorem d_La_law_845 : decode b_La_law 845 = .ok (.iload 5, 2) := by decide +kernel
theorem d_La_law_847 : decode b_La_law 847 = .ok (.if_icmp .eq 5, 3) := by decide +kernel
theorem d_La_law_850 : decode b_La_law 850 = .ok (.iconst 0, 1) := by decide +kernel
theorem d_La_law_851 : decode b_La_law 851 = .ok (.ireturn, 1) := by decide +kernel
theorem d_La_law_852 : decode b_La_law 852 = .ok (.iload 5, 2) := by decide +kernel
theorem d_La_law_854 : decode b_La_law 854 = .ok (.ifCond .ne 15, 3) := by decide +kernel
theorem d_La_law_857 : decode b_La_law 857 = .ok (.aload_n 3, 1) := by decide +kernel
theorem d_La_law_858 : decode b_La_law 858 = .ok (.iconst 0, 1) := by decide +kernel
theorem d_La_law_859 : decode b_La_law 859 = .ok (.laload, 1) := by decide +kernel
theorem d_La_law_860 : decode b_La_law 860 = .ok (.iload 6, 2) := by decide +kernel
theorem d_La_law_862 : decode b_La_law 862 = .ok (.i2l, 1) := by decide +kernel
theorem d_La_law_863 : decode b_La_law 863 = .ok (.lcmp, 1) := by decide +kernel
theorem d_La_law_864 : decode b_La_law 864 = .ok (.ifCond .eq 5, 3) := by decide +kernel
theorem d_La_law_867 : decode b_La_law 867 = .ok (.iconst 0, 1) := by decide +kernel
theorem d_La_law_868 : decode b_La_law 868 = .ok (.ireturn, 1) := by decide +kernel
theorem d_La_law_869 : decode b_La_law 869 = .ok (.goto 301, 3) := by decide +kernel
theorem d_La_law_872 : decode b_La_law 872 = .ok (.aload_n 1, 1) := by decide +kernel
theorem d_La_law_873 : decode b_La_law 873 = .ok (.aload_n 0, 1) := by decide +kernel
theorem d_La_law_874 : decode b_La_law 874 = .ok (.iload 4, 2) := by decide +kernel
theorem d_La_law_876 : decode b_La_law 876 = .ok (.iconst 1, 1) := by decide +kernel
theorem d_La_law_877 : decode b_La_law 877 = .ok (.iadd, 1) := by decide +kernel
theorem d_La_law_878 : decode b_La_law 878 = .ok (.iaload, 1) := by decide +kernel
theorem d_La_law_879 : decode b_La_law 879 = .ok (.aload_n 3, 1) := by decide +kernel
theorem d_La_law_880 : decode b_La_law 880 = .ok (.invokestatic 117, 3) := by decide +kernel
theorem d_La_law_883 : decode b_La_law 883 = .ok (.istore 5, 2) := by decide +kernel
theorem d_La_law_885 : decode b_La_law 885 = .ok (.aload_n 2, 1) := by decide +kernel
theorem d_La_law_886 : decode b_La_law 886 = .ok (.aload_n 0, 1) := by decide +kernel
theorem d_La_law_887 : decode b_La_law 887 = .ok (.iload 4, 2) := by decide +kernel
theorem d_La_law_889 : decode b_La_law 889 = .ok (.iconst 1, 1) := by decide +kernel
theorem d_La_law_890 : decode b_La_law 890 = .ok (.iadd, 1) := by decide +kernel
theorem d_La_law_891 : decode b_La_law 891 = .ok (.iaload, 1) := by decide +kernel
theorem d_La_law_892 : decode b_La_law 892 = .ok (.invokevirtual 119, 3) := by decide +kernel
theorem d_La_law_895 : decode b_La_law 895 = .ok (.istore 6, 2) := by decide +kernel
theorem d_La_law_897 : decode b_La_law 897 = .ok (.aload_n 2, 1) := by decide +kernel
theorem d_La_law_898 : decode b_La_law 898 = .ok (.invokevirtual 76, 3) := by decide +kernel
theorem d_La_law_901 : decode b_La_law 901 = .ok (.iload 5, 2) := by decide +kernel
theorem d_La_law_903 : decode b_La_law 903 = .ok (.if_icmp .eq 5, 3) := by decide +kernel
theorem d_La_law_906 : decode b_La_law 906 = .ok (.iconst 0, 1) := by decide +kernel
theorem d_La_law_907 : decode b_La_law 907 = .ok (.ireturn, 1) := by decide +kernel
theorem d_La_law_908 : decode b_La_law 908 = .ok (.iload 5, 2) := by decide +kernel
theorem d_La_law_910 : decode b_La_law 910 = .ok (.ifCond .ne 15, 3) := by decide +kernel
theorem d_La_law_913 : decode b_La_law 913 = .ok (.aload_n 3, 1) := by decide +kernel
theorem d_La_law_914 : decode b_La_law 914 = .ok (.iconst 0, 1) := by decide +kernel
theorem d_La_law_915 : decode b_La_law 915 = .ok (.laload, 1) := by decide +kernel
theorem d_La_law_916 : decode b_La_law 916 = .ok (.iload 6, 2) := by decide +kernel
theorem d_La_law_918 : decode b_La_law 918 = .ok (.i2l, 1) := by decide +kernel
theorem d_La_law_919 : decode b_La_law 919 = .ok (.lcmp, 1) := by decide +kernel
theorem d_La_law_920 : decode b_La_law 920 = .ok (.ifCond .eq 5, 3) := by decide +kernel
theorem d_La_law_923 : decode b_La_law 923 = .ok (.iconst 0, 1) := by decide +kernel
theorem d_La_law_924 : decode b_La_law 924 = .ok (.ireturn, 1) := by decide +kernel
theorem d_La_law_925 : decode b_La_law 925 = .ok (.goto 245, 3) := by decide +kernel
theorem d_La_law_928 : decode b_La_law 928 = .ok (.aload_n 1, 1) := by decide +kernel
theorem d_La_law_929 : decode b_La_law 929 = .ok (.aload_n 0, 1) := by decide +kernel
theorem d_La_law_930 : decode b_La_law 930 = .ok (.iload 4, 2) := by decide +kernel
theorem d_La_law_932 : decode b_La_law 932 = .ok (.iconst 1, 1) := by decide +kernel
theorem d_La_law_933 : decode b_La_law 933 = .ok (.iadd, 1) := by decide +kernel
theorem d_La_law_934 : decode b_La_law 934 = .ok (.iaload, 1) := by decide +kernel
theorem d_La_law_935 : decode b_La_law 935 = .ok (.aload_n 0, 1) := by decide +kernel
theorem d_La_law_936 : decode b_La_law 936 = .ok (.iload 4, 2) := by decide +kernel
theorem d_La_law_938 : decode b_La_law 938 = .ok (.iconst 2, 1) := by decide +kernel
theorem d_La_law_939 : decode b_La_law 939 = .ok (.iadd, 1) := by decide +kernel
theorem d_La_law_940 : decode b_La_law 940 = .ok (.iaload, 1) := by decide +kernel
theorem d_La_law_941 : decode b_La_law 941 = .ok (.aload_n 3, 1) := by decide +kernel
theorem d_La_law_942 : decode b_La_law 942 = .ok (.invokestatic 120, 3) := by decide +kernel
theorem d_La_law_945 : decode b_La_law 945 = .ok (.istore 5, 2) := by decide +kernel
theorem d_La_law_947 : decode b_La_law 947 = .ok (.aload_n 2, 1) := by decide +kernel
theorem d_La_law_948 : decode b_La_law 948 = .ok (.aload_n 0, 1) := by decide +kernel
theorem d_La_law_949 : decode b_La_law 949 = .ok (.iload 4, 2) := by decide +kernel
theorem d_La_law_951 : decode b_La_law 951 = .ok (.iconst 1, 1) := by decide +kernel
theorem d_La_law_952 : decode b_La_law 952 = .ok (.iadd, 1) := by decide +kernel
theorem d_La_law_953 : decode b_La_law 953 = .ok (.iaload, 1) := by decide +kernel
theorem d_La_law_954 : decode b_La_law 954 = .ok (.aload_n 0, 1) := by decide +kernel
theorem d_La_law_955 : decode b_La_law 955 = .ok (.iload 4, 2) := by decide +kernel
theorem d_La_law_957 : decode b_La_law 957 = .ok (.iconst 2, 1) := by decide +kernel
theorem d_La_law_958 : decode b_La_law 958 = .ok (.iadd, 1) := by decide +kernel
theorem d_La_law_959 : decode b_La_law 959 = .ok (.iaload, 1) := by decide +kernel
theorem d_La_law_960 : decode b_La_law 960 = .ok (.invokevirtual 122, 3) := by decide +kernel
theorem d_La_law_963 : decode b_La_law 963 = .ok (.istore 6, 2) := by decide +kernel
theorem d_La_law_965 : decode b_La_law 965 = .ok (.aload_n 2, 1) := by decide +kernel
theorem d_La_law_966 : decode b_La_law 966 = .ok (.invokevirtual 76, 3) := by decide +kernel
theorem d_La_law_969 : decode b_La_law 969 = .ok (.iload 5, 2) := by decide +kernel
theorem d_La_law_971 : decode b_La_law 971 = .ok (.if_icmp .eq 5, 3) := by decide +kernel
theorem d_La_law_974 : decode b_La_law 974 = .ok (.iconst 0, 1) := by decide +kernel
theorem d_La_law_975 : decode b_La_law 975 = .ok (.ireturn, 1) := by decide +kernel
theorem d_La_law_976 : decode b_La_law 976 = .ok (.iload 5, 2) := by decide +kernel
theorem d_La_law_978 : decode b_La_law 978 = .ok (.ifCond .ne 15, 3) := by decide +kernel
theorem d_La_law_981 : decode b_La_law 981 = .ok (.aload_n 3, 1) := by decide +kernel
theorem d_La_law_982 : decode b_La_law 982 = .ok (.iconst 0, 1) := by decide +kernel
theorem d_La_law_983 : decode b_La_law 983 = .ok (.laload, 1) := by decide +kernel
theorem d_La_law_984 : decode b_La_law 984 = .ok (.iload 6, 2) := by decide +kernel
theorem d_La_law_986 : decode b_La_law 986 = .ok (.i2l, 1) := by decide +kernel
theorem d_La_law_987 : decode b_La_law 987 = .ok (.lcmp, 1) := by decide +kernel
theorem d_La_law_988 : decode b_La_law 988 = .ok (.ifCond .eq 5, 3) := by decide +kernel
theorem d_La_law_991 : decode b_La_law 991 = .ok (.iconst 0, 1) := by decide +kernel
theorem d_La_law_992 : decode b_La_law 992 = .ok (.ireturn, 1) := by decide +kernel
theorem d_La_law_993 : decode b_La_law 993 = .ok (.goto 177, 3) := by decide +kernel
theorem d_La_law_996 : decode b_La_law 996 = .ok (.aload_n 1, 1) := by decide +kernel
theorem d_La_law_997 : decode b_La_law 997 = .ok (.aload_n 0, 1) := by decide +kernel
theorem d_La_law_998 : decode b_La_law 998 = .ok (.iload 4, 2) := by decide +kernel
theorem d_La_law_1000 : decode b_La_law 1000 = .ok (.iconst 1, 1) := by decide +kernel
theorem d_La_law_1001 : decode b_La_law 1001 = .ok (.iadd, 1) := by decide +kernel
theorem d_La_law_1002 : decode b_La_law 1002 = .ok (.iaload, 1) := by decide +kernel
theorem d_La_law_1003 : decode b_La_law 1003 = .ok (.aload_n 0, 1) := by decide +kernel
theorem d_La_law_1004 : decode b_La_law 1004 = .ok (.iload 4, 2) := by decide +kernel
theorem d_La_law_1006 : decode b_La_law 1006 = .ok (.iconst 2, 1) := by decide +kernel
theorem d_La_law_1007 : decode b_La_law 1007 = .ok (.iadd, 1) := by decide +kernel
theorem d_La_law_1008 : decode b_La_law 1008 = .ok (.iaload, 1) := by decide +kernel
theorem d_La_law_1009 : decode b_La_law 1009 = .ok (.aload_n 0, 1) := by decide +kernel
theorem d_La_law_1010 : decode b_La_law 1010 = .ok (.iload 4, 2) := by decide +kernel
theorem d_La_law_1012 : decode b_La_law 1012 = .ok (.iconst 3, 1) := by decide +kernel
theorem d_La_law_1013 : decode b_La_law 1013 = .ok (.iadd, 1) := by decide +kernel
theorem d_La_law_1014 : decode b_La_law 1014 = .ok (.iaload, 1) := by decide +kernel
theorem d_La_law_1015 : decode b_La_law 1015 = .ok (.aload_n 3, 1) := by decide +kernel
theorem d_La_law_1016 : decode b_La_law 1016 = .ok (.invokestatic 123, 3) := by decide +kernel
theorem d_La_law_1019 : decode b_La_law 1019 = .ok (.istore 5, 2) := by decide +kernel
theorem d_La_law_1021 : decode b_La_law 1021 = .ok (.aload_n 2, 1) := by decide +kernel
theorem d_La_law_1022 : decode b_La_law 1022 = .ok (.aload_n 0, 1) := by decide +kernel
theorem d_La_law_1023 : decode b_La_law 1023 = .ok (.iload 4, 2) := by decide +kernel
theorem d_La_law_1025 : decode b_La_law 1025 = .ok (.iconst 1, 1) := by decide +kernel
theorem d_La_law_1026 : decode b_La_law 1026 = .ok (.iadd, 1) := by decide +kernel
theorem d_La_law_1027 : decode b_La_law 1027 = .ok (.iaload, 1) := by decide +kernel
theorem d_La_law_1028 : decode b_La_law 1028 = .ok (.aload_n 0, 1) := by decide +kernel
theorem d_La_law_1029 : decode b_La_law 1029 = .ok (.iload 4, 2) := by decide +kernel
theorem d_La_law_1031 : decode b_La_law 1031 = .ok (.iconst 2, 1) := by decide +kernel
theorem d_La_law_1032 : decode b_La_law 1032 = .ok (.iadd, 1) := by decide +kernel
theorem d_La_law_1033 : decode b_La_law 1033 = .ok (.iaload, 1) := by decide +kernel
theorem d_La_law_1034 : decode b_La_law 1034 = .ok (.aload_n 0, 1) := by decide +kernel
theorem d_La_law_1035 : decode b_La_law 1035 = .ok (.iload 4, 2) := by decide +kernel
theorem d_La_law_1037 : decode b_La_law 1037 = .ok (.iconst 3, 1) := by decide +kernel
theorem d_La_law_1038 : decode b_La_law 1038 = .ok (.iadd, 1) := by decide +kernel
theorem d_La_law_1039 : decode b_La_law 1039 = .ok (.iaload, 1) := by decide +kernel
theorem d_La_law_1040 : decode b_La_law 1040 = .ok (.invokevirtual 125, 3) := by decide +kernel
theorem d_La_law_1043 : decode b_La_law 1043 = .ok (.istore 6, 2) := by decide +kernel
theorem d_La_law_1045 : decode b_La_law 1045 = .ok (.aload_n 2, 1) := by decide +kernel
theorem d_La_law_1046 : decode b_La_law 1046 = .ok (.invokevirtual 76, 3) := by decide +kernel
theorem d_La_law_1049 : decode b_La_law 1049 = .ok (.iload 5, 2) := by decide +kernel
theorem d_La_law_1051 : decode b_La_law 1051 = .ok (.if_icmp .eq 5, 3) := by decide +kernel
theorem d_La_law_1054 : decode b_La_law 1054 = .ok (.iconst 0, 1) := by decide +kernel
theorem d_La_law_1055 : decode b_La_law 1055 = .ok (.ireturn, 1) := by decide +kernel
theorem d_La_law_1056 : decode b_La_law 1056 = .ok (.iload 5, 2) := by decide +kernel
theorem d_La_law_1058 : decode b_La_law 1058 = .ok (.ifCond .ne 15, 3) := by decide +kernel
theorem d_La_law_1061 : decode b_La_law 1061 = .ok (.aload_n 3, 1) := by decide +kernel
theorem d_La_law_1062 : decode b_La_law 1062 = .ok (.iconst 0, 1) := by decide +kernel
theorem d_La_law_1063 : decode b_La_law 1063 = .ok (.laload, 1) := by decide +kernel
theorem d_La_law_1064 : decode b_La_law 1064 = .ok (.iload 6, 2) := by decide +kernel
theorem d_La_law_1066 : decode b_La_law 1066 = .ok (.i2l, 1) := by decide +kernel
theorem d_La_law_1067 : decode b_La_law 1067 = .ok (.lcmp, 1) := by decide +kernel
theorem d_La_law_1068 : decode b_La_law 1068 = .ok (.ifCond .eq 5, 3) := by decide +kernel
theorem d_La_law_1071 : decode b_La_law 1071 = .ok (.iconst 0, 1) := by decide +kernel
theorem d_La_law_1072 : decode b_La_law 1072 = .ok (.ireturn, 1) := by decide +kernel
theorem d_La_law_1073 : decode b_La_law 1073 = .ok (.goto 97, 3) := by decide +kernel
theorem d_La_law_1076 : decode b_La_law 1076 = .ok (.aload_n 1, 1) := by decide +kernel
theorem d_La_law_1077 : decode b_La_law 1077 = .ok (.aload_n 0, 1) := by decide +kernel
theorem d_La_law_1078 : decode b_La_law 1078 = .ok (.iload 4, 2) := by decide +kernel
theorem d_La_law_1080 : decode b_La_law 1080 = .ok (.iconst 1, 1) := by decide +kernel
theorem d_La_law_1081 : decode b_La_law 1081 = .ok (.iadd, 1) := by decide +kernel
theorem d_La_law_1082 : decode b_La_law 1082 = .ok (.iaload, 1) := by decide +kernel
theorem d_La_law_1083 : decode b_La_law 1083 = .ok (.aload_n 3, 1) := by decide +kernel
theorem d_La_law_1084 : decode b_La_law 1084 = .ok (.invokestatic 126, 3) := by decide +kernel
theorem d_La_law_1087 : decode b_La_law 1087 = .ok (.istore 5, 2) := by decide +kernel
theorem d_La_law_1089 : decode b_La_law 1089 = .ok (.aload_n 2, 1) := by decide +kernel
theorem d_La_law_1090 : decode b_La_law 1090 = .ok (.aload_n 0, 1) := by decide +kernel
theorem d_La_law_1091 : decode b_La_law 1091 = .ok (.iload 4, 2) := by decide +kernel
theorem d_La_law_1093 : decode b_La_law 1093 = .ok (.iconst 1, 1) := by decide +kernel
theorem d_La_law_1094 : decode b_La_law 1094 = .ok (.iadd, 1) := by decide +kernel
theorem d_La_law_1095 : decode b_La_law 1095 = .ok (.iaload, 1) := by decide +kernel
theorem d_La_law_1096 : decode b_La_law 1096 = .ok (.invokevirtual 128, 3) := by decide +kernel
theorem d_La_law_1099 : decode b_La_law 1099 = .ok (.istore 6, 2) := by decide +kernel
theorem d_La_law_1101 : decode b_La_law 1101 = .ok (.aload_n 2, 1) := by decide +kernel
theorem d_La_law_1102 : decode b_La_law 1102 = .ok (.invokevirtual 76, 3) := by decide +kernel
theorem d_La_law_1105 : decode b_La_law 1105 = .ok (.iload 5, 2) := by decide +kernel
theorem d_La_law_1107 : decode b_La_law 1107 = .ok (.if_icmp .eq 5, 3) := by decide +kernel
theorem d_La_law_1110 : decode b_La_law 1110 = .ok (.iconst 0, 1) := by decide +kernel
theorem d_La_law_1111 : decode b_La_law 1111 = .ok (.ireturn, 1) := by decide +kernel
theorem d_La_law_1112 : decode b_La_law 1112 = .ok (.iload 5, 2) := by decide +kernel
theorem d_La_law_1114 : decode b_La_law 1114 = .ok (.ifCond .ne 15, 3) := by decide +kernel
theorem d_La_law_1117 : decode b_La_law 1117 = .ok (.aload_n 3, 1) := by decide +kernel
theorem d_La_law_1118 : decode b_La_law 1118 = .ok (.iconst 0, 1) := by decide +kernel
theorem d_La_law_1119 : decode b_La_law 1119 = .ok (.laload, 1) := by decide +kernel
theorem d_La_law_1120 : decode b_La_law 1120 = .ok (.iload 6, 2) := by decide +kernel
theorem d_La_law_1122 : decode b_La_law 1122 = .ok (.i2l, 1) := by decide +kernel
theorem d_La_law_1123 : decode b_La_law 1123 = .ok (.lcmp, 1) := by decide +kernel
theorem d_La_law_1124 : decode b_La_law 1124 = .ok (.ifCond .eq 5, 3) := by decide +kernel
theorem d_La_law_1127 : decode b_La_law 1127 = .ok (.iconst 0, 1) := by decide +kernel
theorem d_La_law_1128 : decode b_La_law 1128 = .ok (.ireturn, 1) := by decide +kernel
theorem d_La_law_1129 : decode b_La_law 1129 = .ok (.goto 41, 3) := by decide +kernel
theorem d_La_law_1132 : decode b_La_law 1132 = .ok (.aload_n 1, 1) := by decide +kernel
theorem d_La_law_1133 : decode b_La_law 1133 = .ok (.invokevirtual 129, 3) := by decide +kernel
theorem d_La_law_1136 : decode b_La_law 1136 = .ok (.aload_n 2, 1) := by decide +kernel
theorem d_La_law_1137 : decode b_La_law 1137 = .ok (.invokevirtual 132, 3) := by decide +kernel
theorem d_La_law_1140 : decode b_La_law 1140 = .ok (.if_icmp .eq 30, 3) := by decide +kernel
theorem d_La_law_1143 : decode b_La_law 1143 = .ok (.iconst 0, 1) := by decide +kernel
theorem d_La_law_1144 : decode b_La_law 1144 = .ok (.ireturn, 1) := by decide +kernel
theorem d_La_law_1145 : decode b_La_law 1145 = .ok (.aload_n 1, 1) := by decide +kernel
theorem d_La_law_1146 : decode b_La_law 1146 = .ok (.aload_n 0, 1) := by decide +kernel
theorem d_La_law_1147 : decode b_La_law 1147 = .ok (.iload 4, 2) := by decide +kernel
theorem d_La_law_1149 : decode b_La_law 1149 = .ok (.iconst 1, 1) := by decide +kernel
theorem d_La_law_1150 : decode b_La_law 1150 = .ok (.iadd, 1) := by decide +kernel
theorem d_La_law_1151 : decode b_La_law 1151 = .ok (.iaload, 1) := by decide +kernel
theorem d_La_law_1152 : decode b_La_law 1152 = .ok (.invokevirtual 133, 3) := by decide +kernel
theorem d_La_law_1155 : decode b_La_law 1155 = .ok (.aload_n 2, 1) := by decide +kernel
theorem d_La_law_1156 : decode b_La_law 1156 = .ok (.aload_n 0, 1) := by decide +kernel
theorem d_La_law_1157 : decode b_La_law 1157 = .ok (.iload 4, 2) := by decide +kernel
theorem d_La_law_1159 : decode b_La_law 1159 = .ok (.iconst 1, 1) := by decide +kernel
theorem d_La_law_1160 : decode b_La_law 1160 = .ok (.iadd, 1) := by decide +kernel
theorem d_La_law_1161 : decode b_La_law 1161 = .ok (.iaload, 1) := by decide +kernel
theorem d_La_law_1162 : decode b_La_law 1162 = .ok (.invokevirtual 137, 3) := by decide +kernel
theorem d_La_law_1165 : decode b_La_law 1165 = .ok (.if_icmp .eq 5, 3) := by decide +kernel
theorem d_La_law_1168 : decode b_La_law 1168 = .ok (.iconst 0, 1) := by decide +kernel
theorem d_La_law_1169 : decode b_La_law 1169 = .ok (.ireturn, 1) := by decide +kernel
theorem d_La_law_1170 : decode b_La_law 1170 = .ok (.iinc 4 5, 3) := by decide +kernel
theorem d_La_law_1173 : decode b_La_law 1173 = .ok (.goto (-1150), 3) := by decide +kernel
theorem d_La_law_1176 : decode b_La_law 1176 = .ok (.iconst 1, 1) := by decide +kernel
theorem d_La_law_1177 : decode b_La_law 1177 = .ok (.ireturn, 1) := by decide +kernel
