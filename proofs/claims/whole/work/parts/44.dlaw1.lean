/-! The law's instructions (1). -/
theorem d_L_law_0 : decode code 0 = .ok (.new 8, 3) := by decide +kernel
theorem d_L_law_3 : decode code 3 = .ok (.dup, 1) := by decide +kernel
theorem d_L_law_4 : decode code 4 = .ok (.invokespecial 81, 3) := by decide +kernel
theorem d_L_law_7 : decode code 7 = .ok (.astore_n 1, 1) := by decide +kernel
theorem d_L_law_8 : decode code 8 = .ok (.new 82, 3) := by decide +kernel
theorem d_L_law_11 : decode code 11 = .ok (.dup, 1) := by decide +kernel
theorem d_L_law_12 : decode code 12 = .ok (.invokespecial 84, 3) := by decide +kernel
theorem d_L_law_15 : decode code 15 = .ok (.astore_n 2, 1) := by decide +kernel
theorem d_L_law_16 : decode code 16 = .ok (.iconst 1, 1) := by decide +kernel
theorem d_L_law_17 : decode code 17 = .ok (.newarray .long, 2) := by decide +kernel
theorem d_L_law_19 : decode code 19 = .ok (.astore_n 3, 1) := by decide +kernel
theorem d_L_law_20 : decode code 20 = .ok (.iconst 0, 1) := by decide +kernel
theorem d_L_law_21 : decode code 21 = .ok (.istore 4, 2) := by decide +kernel
theorem d_L_law_23 : decode code 23 = .ok (.iload 4, 2) := by decide +kernel
theorem d_L_law_25 : decode code 25 = .ok (.aload_n 0, 1) := by decide +kernel
theorem d_L_law_26 : decode code 26 = .ok (.arraylength, 1) := by decide +kernel
theorem d_L_law_27 : decode code 27 = .ok (.bipush 10, 2) := by decide +kernel
theorem d_L_law_29 : decode code 29 = .ok (.isub, 1) := by decide +kernel
theorem d_L_law_30 : decode code 30 = .ok (.if_icmp .gt 2096, 3) := by decide +kernel
theorem d_L_law_33 : decode code 33 = .ok (.aload_n 0, 1) := by decide +kernel
theorem d_L_law_34 : decode code 34 = .ok (.iload 4, 2) := by decide +kernel
theorem d_L_law_36 : decode code 36 = .ok (.iaload, 1) := by decide +kernel
theorem d_L_law_37 : decode code 37 = .ok (.bipush 31, 2) := by decide +kernel
theorem d_L_law_39 : decode code 39 = .ok (.iand, 1) := by decide +kernel
theorem d_L_law_40 : decode code 40 = .ok (.tableswitch 2080 0 19 #[96, 152, 227, 406, 485, 498, 585, 653, 893, 918, 1049, 1156, 1231, 1306, 1425, 1525, 1592, 1660, 1784, 1908], 96) := by decide +kernel
theorem d_L_law_136 : decode code 136 = .ok (.aload_n 1, 1) := by decide +kernel
theorem d_L_law_137 : decode code 137 = .ok (.aload_n 0, 1) := by decide +kernel
theorem d_L_law_138 : decode code 138 = .ok (.iload 4, 2) := by decide +kernel
theorem d_L_law_140 : decode code 140 = .ok (.iconst 1, 1) := by decide +kernel
theorem d_L_law_141 : decode code 141 = .ok (.iadd, 1) := by decide +kernel
theorem d_L_law_142 : decode code 142 = .ok (.iaload, 1) := by decide +kernel
theorem d_L_law_143 : decode code 143 = .ok (.aload_n 3, 1) := by decide +kernel
theorem d_L_law_144 : decode code 144 = .ok (.invokestatic 85, 3) := by decide +kernel
theorem d_L_law_147 : decode code 147 = .ok (.istore 5, 2) := by decide +kernel
theorem d_L_law_149 : decode code 149 = .ok (.aload_n 2, 1) := by decide +kernel
theorem d_L_law_150 : decode code 150 = .ok (.aload_n 0, 1) := by decide +kernel
theorem d_L_law_151 : decode code 151 = .ok (.iload 4, 2) := by decide +kernel
theorem d_L_law_153 : decode code 153 = .ok (.iconst 1, 1) := by decide +kernel
theorem d_L_law_154 : decode code 154 = .ok (.iadd, 1) := by decide +kernel
theorem d_L_law_155 : decode code 155 = .ok (.iaload, 1) := by decide +kernel
theorem d_L_law_156 : decode code 156 = .ok (.invokevirtual 90, 3) := by decide +kernel
theorem d_L_law_159 : decode code 159 = .ok (.istore 6, 2) := by decide +kernel
theorem d_L_law_161 : decode code 161 = .ok (.aload_n 2, 1) := by decide +kernel
theorem d_L_law_162 : decode code 162 = .ok (.invokevirtual 91, 3) := by decide +kernel
theorem d_L_law_165 : decode code 165 = .ok (.iload 5, 2) := by decide +kernel
theorem d_L_law_167 : decode code 167 = .ok (.if_icmp .eq 5, 3) := by decide +kernel
theorem d_L_law_170 : decode code 170 = .ok (.iconst 0, 1) := by decide +kernel
theorem d_L_law_171 : decode code 171 = .ok (.ireturn, 1) := by decide +kernel
theorem d_L_law_172 : decode code 172 = .ok (.iload 5, 2) := by decide +kernel
theorem d_L_law_174 : decode code 174 = .ok (.ifCond .ne 15, 3) := by decide +kernel
theorem d_L_law_177 : decode code 177 = .ok (.aload_n 3, 1) := by decide +kernel
theorem d_L_law_178 : decode code 178 = .ok (.iconst 0, 1) := by decide +kernel
theorem d_L_law_179 : decode code 179 = .ok (.laload, 1) := by decide +kernel
theorem d_L_law_180 : decode code 180 = .ok (.iload 6, 2) := by decide +kernel
theorem d_L_law_182 : decode code 182 = .ok (.i2l, 1) := by decide +kernel
theorem d_L_law_183 : decode code 183 = .ok (.lcmp, 1) := by decide +kernel
theorem d_L_law_184 : decode code 184 = .ok (.ifCond .eq 5, 3) := by decide +kernel
theorem d_L_law_187 : decode code 187 = .ok (.iconst 0, 1) := by decide +kernel
theorem d_L_law_188 : decode code 188 = .ok (.ireturn, 1) := by decide +kernel
theorem d_L_law_189 : decode code 189 = .ok (.goto 1931, 3) := by decide +kernel
theorem d_L_law_192 : decode code 192 = .ok (.aload_n 1, 1) := by decide +kernel
theorem d_L_law_193 : decode code 193 = .ok (.aload_n 0, 1) := by decide +kernel
theorem d_L_law_194 : decode code 194 = .ok (.iload 4, 2) := by decide +kernel
theorem d_L_law_196 : decode code 196 = .ok (.iconst 1, 1) := by decide +kernel
theorem d_L_law_197 : decode code 197 = .ok (.iadd, 1) := by decide +kernel
theorem d_L_law_198 : decode code 198 = .ok (.iaload, 1) := by decide +kernel
theorem d_L_law_199 : decode code 199 = .ok (.aload_n 0, 1) := by decide +kernel
theorem d_L_law_200 : decode code 200 = .ok (.iload 4, 2) := by decide +kernel
theorem d_L_law_202 : decode code 202 = .ok (.iconst 2, 1) := by decide +kernel
theorem d_L_law_203 : decode code 203 = .ok (.iadd, 1) := by decide +kernel
theorem d_L_law_204 : decode code 204 = .ok (.iaload, 1) := by decide +kernel
theorem d_L_law_205 : decode code 205 = .ok (.aload_n 3, 1) := by decide +kernel
theorem d_L_law_206 : decode code 206 = .ok (.invokestatic 95, 3) := by decide +kernel
theorem d_L_law_209 : decode code 209 = .ok (.istore 5, 2) := by decide +kernel
theorem d_L_law_211 : decode code 211 = .ok (.aload_n 2, 1) := by decide +kernel
theorem d_L_law_212 : decode code 212 = .ok (.aload_n 0, 1) := by decide +kernel
theorem d_L_law_213 : decode code 213 = .ok (.iload 4, 2) := by decide +kernel
theorem d_L_law_215 : decode code 215 = .ok (.iconst 1, 1) := by decide +kernel
theorem d_L_law_216 : decode code 216 = .ok (.iadd, 1) := by decide +kernel
theorem d_L_law_217 : decode code 217 = .ok (.iaload, 1) := by decide +kernel
theorem d_L_law_218 : decode code 218 = .ok (.aload_n 0, 1) := by decide +kernel
theorem d_L_law_219 : decode code 219 = .ok (.iload 4, 2) := by decide +kernel
theorem d_L_law_221 : decode code 221 = .ok (.iconst 2, 1) := by decide +kernel
theorem d_L_law_222 : decode code 222 = .ok (.iadd, 1) := by decide +kernel
theorem d_L_law_223 : decode code 223 = .ok (.iaload, 1) := by decide +kernel
theorem d_L_law_224 : decode code 224 = .ok (.invokevirtual 98, 3) := by decide +kernel
theorem d_L_law_227 : decode code 227 = .ok (.istore 6, 2) := by decide +kernel
theorem d_L_law_229 : decode code 229 = .ok (.aload_n 2, 1) := by decide +kernel
theorem d_L_law_230 : decode code 230 = .ok (.invokevirtual 91, 3) := by decide +kernel
theorem d_L_law_233 : decode code 233 = .ok (.iload 5, 2) := by decide +kernel
theorem d_L_law_235 : decode code 235 = .ok (.if_icmp .eq 5, 3) := by decide +kernel
theorem d_L_law_238 : decode code 238 = .ok (.iconst 0, 1) := by decide +kernel
theorem d_L_law_239 : decode code 239 = .ok (.ireturn, 1) := by decide +kernel
theorem d_L_law_240 : decode code 240 = .ok (.iload 5, 2) := by decide +kernel
theorem d_L_law_242 : decode code 242 = .ok (.ifCond .ne 22, 3) := by decide +kernel
theorem d_L_law_245 : decode code 245 = .ok (.aload_n 3, 1) := by decide +kernel
theorem d_L_law_246 : decode code 246 = .ok (.iconst 0, 1) := by decide +kernel
theorem d_L_law_247 : decode code 247 = .ok (.laload, 1) := by decide +kernel
theorem d_L_law_248 : decode code 248 = .ok (.iload 6, 2) := by decide +kernel
theorem d_L_law_250 : decode code 250 = .ok (.ifCond .eq 7, 3) := by decide +kernel
theorem d_L_law_253 : decode code 253 = .ok (.lconst 1, 1) := by decide +kernel
theorem d_L_law_254 : decode code 254 = .ok (.goto 4, 3) := by decide +kernel
theorem d_L_law_257 : decode code 257 = .ok (.lconst 0, 1) := by decide +kernel
theorem d_L_law_258 : decode code 258 = .ok (.lcmp, 1) := by decide +kernel
theorem d_L_law_259 : decode code 259 = .ok (.ifCond .eq 5, 3) := by decide +kernel
theorem d_L_law_262 : decode code 262 = .ok (.iconst 0, 1) := by decide +kernel
theorem d_L_law_263 : decode code 263 = .ok (.ireturn, 1) := by decide +kernel
theorem d_L_law_264 : decode code 264 = .ok (.goto 1856, 3) := by decide +kernel
theorem d_L_law_267 : decode code 267 = .ok (.aload_n 1, 1) := by decide +kernel
theorem d_L_law_268 : decode code 268 = .ok (.aload_n 0, 1) := by decide +kernel
theorem d_L_law_269 : decode code 269 = .ok (.iload 4, 2) := by decide +kernel
theorem d_L_law_271 : decode code 271 = .ok (.iconst 1, 1) := by decide +kernel
theorem d_L_law_272 : decode code 272 = .ok (.iadd, 1) := by decide +kernel
theorem d_L_law_273 : decode code 273 = .ok (.iaload, 1) := by decide +kernel
theorem d_L_law_274 : decode code 274 = .ok (.aload_n 0, 1) := by decide +kernel
theorem d_L_law_275 : decode code 275 = .ok (.iload 4, 2) := by decide +kernel
theorem d_L_law_277 : decode code 277 = .ok (.iconst 2, 1) := by decide +kernel
theorem d_L_law_278 : decode code 278 = .ok (.iadd, 1) := by decide +kernel
theorem d_L_law_279 : decode code 279 = .ok (.iaload, 1) := by decide +kernel
theorem d_L_law_280 : decode code 280 = .ok (.aload_n 0, 1) := by decide +kernel
theorem d_L_law_281 : decode code 281 = .ok (.iload 4, 2) := by decide +kernel
theorem d_L_law_283 : decode code 283 = .ok (.iconst 3, 1) := by decide +kernel
theorem d_L_law_284 : decode code 284 = .ok (.iadd, 1) := by decide +kernel
theorem d_L_law_285 : decode code 285 = .ok (.iaload, 1) := by decide +kernel
theorem d_L_law_286 : decode code 286 = .ok (.i2l, 1) := by decide +kernel
theorem d_L_law_287 : decode code 287 = .ok (.bipush 32, 2) := by decide +kernel
theorem d_L_law_289 : decode code 289 = .ok (.lshl, 1) := by decide +kernel
theorem d_L_law_290 : decode code 290 = .ok (.aload_n 0, 1) := by decide +kernel
theorem d_L_law_291 : decode code 291 = .ok (.iload 4, 2) := by decide +kernel
theorem d_L_law_293 : decode code 293 = .ok (.iconst 4, 1) := by decide +kernel
theorem d_L_law_294 : decode code 294 = .ok (.iadd, 1) := by decide +kernel
theorem d_L_law_295 : decode code 295 = .ok (.iaload, 1) := by decide +kernel
theorem d_L_law_296 : decode code 296 = .ok (.i2l, 1) := by decide +kernel
theorem d_L_law_297 : decode code 297 = .ok (.ldc2_w 99, 3) := by decide +kernel
theorem d_L_law_300 : decode code 300 = .ok (.land, 1) := by decide +kernel
theorem d_L_law_301 : decode code 301 = .ok (.lor, 1) := by decide +kernel
theorem d_L_law_302 : decode code 302 = .ok (.aload_n 0, 1) := by decide +kernel
theorem d_L_law_303 : decode code 303 = .ok (.iload 4, 2) := by decide +kernel
theorem d_L_law_305 : decode code 305 = .ok (.iconst 5, 1) := by decide +kernel
theorem d_L_law_306 : decode code 306 = .ok (.iadd, 1) := by decide +kernel
theorem d_L_law_307 : decode code 307 = .ok (.iaload, 1) := by decide +kernel
theorem d_L_law_308 : decode code 308 = .ok (.i2l, 1) := by decide +kernel
theorem d_L_law_309 : decode code 309 = .ok (.bipush 32, 2) := by decide +kernel
theorem d_L_law_311 : decode code 311 = .ok (.lshl, 1) := by decide +kernel
theorem d_L_law_312 : decode code 312 = .ok (.aload_n 0, 1) := by decide +kernel
theorem d_L_law_313 : decode code 313 = .ok (.iload 4, 2) := by decide +kernel
theorem d_L_law_315 : decode code 315 = .ok (.bipush 6, 2) := by decide +kernel
theorem d_L_law_317 : decode code 317 = .ok (.iadd, 1) := by decide +kernel
theorem d_L_law_318 : decode code 318 = .ok (.iaload, 1) := by decide +kernel
theorem d_L_law_319 : decode code 319 = .ok (.i2l, 1) := by decide +kernel
theorem d_L_law_320 : decode code 320 = .ok (.ldc2_w 99, 3) := by decide +kernel
theorem d_L_law_323 : decode code 323 = .ok (.land, 1) := by decide +kernel
theorem d_L_law_324 : decode code 324 = .ok (.lor, 1) := by decide +kernel
theorem d_L_law_325 : decode code 325 = .ok (.aload_n 0, 1) := by decide +kernel
theorem d_L_law_326 : decode code 326 = .ok (.iload 4, 2) := by decide +kernel
theorem d_L_law_328 : decode code 328 = .ok (.bipush 7, 2) := by decide +kernel
theorem d_L_law_330 : decode code 330 = .ok (.iadd, 1) := by decide +kernel
theorem d_L_law_331 : decode code 331 = .ok (.iaload, 1) := by decide +kernel
theorem d_L_law_332 : decode code 332 = .ok (.aload_n 3, 1) := by decide +kernel
theorem d_L_law_333 : decode code 333 = .ok (.invokestatic 101, 3) := by decide +kernel
theorem d_L_law_336 : decode code 336 = .ok (.istore 5, 2) := by decide +kernel
theorem d_L_law_338 : decode code 338 = .ok (.aload_n 2, 1) := by decide +kernel
theorem d_L_law_339 : decode code 339 = .ok (.aload_n 0, 1) := by decide +kernel
theorem d_L_law_340 : decode code 340 = .ok (.iload 4, 2) := by decide +kernel
theorem d_L_law_342 : decode code 342 = .ok (.iconst 1, 1) := by decide +kernel
theorem d_L_law_343 : decode code 343 = .ok (.iadd, 1) := by decide +kernel
theorem d_L_law_344 : decode code 344 = .ok (.iaload, 1) := by decide +kernel
theorem d_L_law_345 : decode code 345 = .ok (.aload_n 0, 1) := by decide +kernel
theorem d_L_law_346 : decode code 346 = .ok (.iload 4, 2) := by decide +kernel
theorem d_L_law_348 : decode code 348 = .ok (.iconst 2, 1) := by decide +kernel
theorem d_L_law_349 : decode code 349 = .ok (.iadd, 1) := by decide +kernel
theorem d_L_law_350 : decode code 350 = .ok (.iaload, 1) := by decide +kernel
theorem d_L_law_351 : decode code 351 = .ok (.aload_n 0, 1) := by decide +kernel
theorem d_L_law_352 : decode code 352 = .ok (.iload 4, 2) := by decide +kernel
theorem d_L_law_354 : decode code 354 = .ok (.iconst 3, 1) := by decide +kernel
theorem d_L_law_355 : decode code 355 = .ok (.iadd, 1) := by decide +kernel
theorem d_L_law_356 : decode code 356 = .ok (.iaload, 1) := by decide +kernel
theorem d_L_law_357 : decode code 357 = .ok (.i2l, 1) := by decide +kernel
theorem d_L_law_358 : decode code 358 = .ok (.bipush 32, 2) := by decide +kernel
theorem d_L_law_360 : decode code 360 = .ok (.lshl, 1) := by decide +kernel
theorem d_L_law_361 : decode code 361 = .ok (.aload_n 0, 1) := by decide +kernel
theorem d_L_law_362 : decode code 362 = .ok (.iload 4, 2) := by decide +kernel
theorem d_L_law_364 : decode code 364 = .ok (.iconst 4, 1) := by decide +kernel
theorem d_L_law_365 : decode code 365 = .ok (.iadd, 1) := by decide +kernel
theorem d_L_law_366 : decode code 366 = .ok (.iaload, 1) := by decide +kernel
theorem d_L_law_367 : decode code 367 = .ok (.i2l, 1) := by decide +kernel
theorem d_L_law_368 : decode code 368 = .ok (.ldc2_w 99, 3) := by decide +kernel
theorem d_L_law_371 : decode code 371 = .ok (.land, 1) := by decide +kernel
theorem d_L_law_372 : decode code 372 = .ok (.lor, 1) := by decide +kernel
theorem d_L_law_373 : decode code 373 = .ok (.aload_n 0, 1) := by decide +kernel
theorem d_L_law_374 : decode code 374 = .ok (.iload 4, 2) := by decide +kernel
theorem d_L_law_376 : decode code 376 = .ok (.iconst 5, 1) := by decide +kernel
theorem d_L_law_377 : decode code 377 = .ok (.iadd, 1) := by decide +kernel
theorem d_L_law_378 : decode code 378 = .ok (.iaload, 1) := by decide +kernel
theorem d_L_law_379 : decode code 379 = .ok (.i2l, 1) := by decide +kernel
theorem d_L_law_380 : decode code 380 = .ok (.bipush 32, 2) := by decide +kernel
theorem d_L_law_382 : decode code 382 = .ok (.lshl, 1) := by decide +kernel
theorem d_L_law_383 : decode code 383 = .ok (.aload_n 0, 1) := by decide +kernel
theorem d_L_law_384 : decode code 384 = .ok (.iload 4, 2) := by decide +kernel
theorem d_L_law_386 : decode code 386 = .ok (.bipush 6, 2) := by decide +kernel
theorem d_L_law_388 : decode code 388 = .ok (.iadd, 1) := by decide +kernel
theorem d_L_law_389 : decode code 389 = .ok (.iaload, 1) := by decide +kernel
theorem d_L_law_390 : decode code 390 = .ok (.i2l, 1) := by decide +kernel
theorem d_L_law_391 : decode code 391 = .ok (.ldc2_w 99, 3) := by decide +kernel
theorem d_L_law_394 : decode code 394 = .ok (.land, 1) := by decide +kernel
theorem d_L_law_395 : decode code 395 = .ok (.lor, 1) := by decide +kernel
theorem d_L_law_396 : decode code 396 = .ok (.aload_n 0, 1) := by decide +kernel
theorem d_L_law_397 : decode code 397 = .ok (.iload 4, 2) := by decide +kernel
theorem d_L_law_399 : decode code 399 = .ok (.bipush 7, 2) := by decide +kernel
theorem d_L_law_401 : decode code 401 = .ok (.iadd, 1) := by decide +kernel
theorem d_L_law_402 : decode code 402 = .ok (.iaload, 1) := by decide +kernel
theorem d_L_law_403 : decode code 403 = .ok (.invokevirtual 104, 3) := by decide +kernel
theorem d_L_law_406 : decode code 406 = .ok (.istore 6, 2) := by decide +kernel
theorem d_L_law_408 : decode code 408 = .ok (.aload_n 2, 1) := by decide +kernel
theorem d_L_law_409 : decode code 409 = .ok (.invokevirtual 91, 3) := by decide +kernel
theorem d_L_law_412 : decode code 412 = .ok (.iload 5, 2) := by decide +kernel
theorem d_L_law_414 : decode code 414 = .ok (.if_icmp .eq 5, 3) := by decide +kernel
theorem d_L_law_417 : decode code 417 = .ok (.iconst 0, 1) := by decide +kernel
theorem d_L_law_418 : decode code 418 = .ok (.ireturn, 1) := by decide +kernel
theorem d_L_law_419 : decode code 419 = .ok (.iload 5, 2) := by decide +kernel
theorem d_L_law_421 : decode code 421 = .ok (.ifCond .ne 22, 3) := by decide +kernel
theorem d_L_law_424 : decode code 424 = .ok (.aload_n 3, 1) := by decide +kernel
theorem d_L_law_425 : decode code 425 = .ok (.iconst 0, 1) := by decide +kernel
theorem d_L_law_426 : decode code 426 = .ok (.laload, 1) := by decide +kernel
theorem d_L_law_427 : decode code 427 = .ok (.iload 6, 2) := by decide +kernel
theorem d_L_law_429 : decode code 429 = .ok (.ifCond .eq 7, 3) := by decide +kernel
theorem d_L_law_432 : decode code 432 = .ok (.lconst 1, 1) := by decide +kernel
theorem d_L_law_433 : decode code 433 = .ok (.goto 4, 3) := by decide +kernel
theorem d_L_law_436 : decode code 436 = .ok (.lconst 0, 1) := by decide +kernel
theorem d_L_law_437 : decode code 437 = .ok (.lcmp, 1) := by decide +kernel
theorem d_L_law_438 : decode code 438 = .ok (.ifCond .eq 5, 3) := by decide +kernel
theorem d_L_law_441 : decode code 441 = .ok (.iconst 0, 1) := by decide +kernel
theorem d_L_law_442 : decode code 442 = .ok (.ireturn, 1) := by decide +kernel
theorem d_L_law_443 : decode code 443 = .ok (.goto 1677, 3) := by decide +kernel
theorem d_L_law_446 : decode code 446 = .ok (.aload_n 1, 1) := by decide +kernel
theorem d_L_law_447 : decode code 447 = .ok (.aload_n 0, 1) := by decide +kernel
theorem d_L_law_448 : decode code 448 = .ok (.iload 4, 2) := by decide +kernel
theorem d_L_law_450 : decode code 450 = .ok (.iconst 1, 1) := by decide +kernel
theorem d_L_law_451 : decode code 451 = .ok (.iadd, 1) := by decide +kernel
theorem d_L_law_452 : decode code 452 = .ok (.iaload, 1) := by decide +kernel
theorem d_L_law_453 : decode code 453 = .ok (.aload_n 0, 1) := by decide +kernel
theorem d_L_law_454 : decode code 454 = .ok (.iload 4, 2) := by decide +kernel
theorem d_L_law_456 : decode code 456 = .ok (.iconst 2, 1) := by decide +kernel
theorem d_L_law_457 : decode code 457 = .ok (.iadd, 1) := by decide +kernel
theorem d_L_law_458 : decode code 458 = .ok (.iaload, 1) := by decide +kernel
theorem d_L_law_459 : decode code 459 = .ok (.aload_n 0, 1) := by decide +kernel
theorem d_L_law_460 : decode code 460 = .ok (.iload 4, 2) := by decide +kernel
theorem d_L_law_462 : decode code 462 = .ok (.iconst 3, 1) := by decide +kernel
theorem d_L_law_463 : decode code 463 = .ok (.iadd, 1) := by decide +kernel
theorem d_L_law_464 : decode code 464 = .ok (.iaload, 1) := by decide +kernel
theorem d_L_law_465 : decode code 465 = .ok (.aload_n 3, 1) := by decide +kernel
theorem d_L_law_466 : decode code 466 = .ok (.invokestatic 105, 3) := by decide +kernel
theorem d_L_law_469 : decode code 469 = .ok (.istore 5, 2) := by decide +kernel
theorem d_L_law_471 : decode code 471 = .ok (.aload_n 2, 1) := by decide +kernel
theorem d_L_law_472 : decode code 472 = .ok (.aload_n 0, 1) := by decide +kernel
theorem d_L_law_473 : decode code 473 = .ok (.iload 4, 2) := by decide +kernel
theorem d_L_law_475 : decode code 475 = .ok (.iconst 1, 1) := by decide +kernel
theorem d_L_law_476 : decode code 476 = .ok (.iadd, 1) := by decide +kernel
theorem d_L_law_477 : decode code 477 = .ok (.iaload, 1) := by decide +kernel
theorem d_L_law_478 : decode code 478 = .ok (.aload_n 0, 1) := by decide +kernel
theorem d_L_law_479 : decode code 479 = .ok (.iload 4, 2) := by decide +kernel
theorem d_L_law_481 : decode code 481 = .ok (.iconst 2, 1) := by decide +kernel
theorem d_L_law_482 : decode code 482 = .ok (.iadd, 1) := by decide +kernel
theorem d_L_law_483 : decode code 483 = .ok (.iaload, 1) := by decide +kernel
theorem d_L_law_484 : decode code 484 = .ok (.aload_n 0, 1) := by decide +kernel
theorem d_L_law_485 : decode code 485 = .ok (.iload 4, 2) := by decide +kernel
theorem d_L_law_487 : decode code 487 = .ok (.iconst 3, 1) := by decide +kernel
theorem d_L_law_488 : decode code 488 = .ok (.iadd, 1) := by decide +kernel
theorem d_L_law_489 : decode code 489 = .ok (.iaload, 1) := by decide +kernel
theorem d_L_law_490 : decode code 490 = .ok (.invokevirtual 108, 3) := by decide +kernel
theorem d_L_law_493 : decode code 493 = .ok (.lstore 6, 2) := by decide +kernel
theorem d_L_law_495 : decode code 495 = .ok (.aload_n 2, 1) := by decide +kernel
theorem d_L_law_496 : decode code 496 = .ok (.invokevirtual 91, 3) := by decide +kernel
theorem d_L_law_499 : decode code 499 = .ok (.iload 5, 2) := by decide +kernel
theorem d_L_law_501 : decode code 501 = .ok (.if_icmp .eq 5, 3) := by decide +kernel
theorem d_L_law_504 : decode code 504 = .ok (.iconst 0, 1) := by decide +kernel
theorem d_L_law_505 : decode code 505 = .ok (.ireturn, 1) := by decide +kernel
theorem d_L_law_506 : decode code 506 = .ok (.iload 5, 2) := by decide +kernel
theorem d_L_law_508 : decode code 508 = .ok (.ifCond .ne 14, 3) := by decide +kernel
theorem d_L_law_511 : decode code 511 = .ok (.aload_n 3, 1) := by decide +kernel
theorem d_L_law_512 : decode code 512 = .ok (.iconst 0, 1) := by decide +kernel
theorem d_L_law_513 : decode code 513 = .ok (.laload, 1) := by decide +kernel
theorem d_L_law_514 : decode code 514 = .ok (.lload 6, 2) := by decide +kernel
theorem d_L_law_516 : decode code 516 = .ok (.lcmp, 1) := by decide +kernel
theorem d_L_law_517 : decode code 517 = .ok (.ifCond .eq 5, 3) := by decide +kernel
theorem d_L_law_520 : decode code 520 = .ok (.iconst 0, 1) := by decide +kernel
theorem d_L_law_521 : decode code 521 = .ok (.ireturn, 1) := by decide +kernel
theorem d_L_law_522 : decode code 522 = .ok (.goto 1598, 3) := by decide +kernel
theorem d_L_law_525 : decode code 525 = .ok (.aload_n 1, 1) := by decide +kernel
theorem d_L_law_526 : decode code 526 = .ok (.invokevirtual 109, 3) := by decide +kernel
theorem d_L_law_529 : decode code 529 = .ok (.aload_n 2, 1) := by decide +kernel
theorem d_L_law_530 : decode code 530 = .ok (.invokevirtual 112, 3) := by decide +kernel
theorem d_L_law_533 : decode code 533 = .ok (.if_icmp .eq 1587, 3) := by decide +kernel
theorem d_L_law_536 : decode code 536 = .ok (.iconst 0, 1) := by decide +kernel
theorem d_L_law_537 : decode code 537 = .ok (.ireturn, 1) := by decide +kernel
theorem d_L_law_538 : decode code 538 = .ok (.aload_n 1, 1) := by decide +kernel
theorem d_L_law_539 : decode code 539 = .ok (.aload_n 0, 1) := by decide +kernel
theorem d_L_law_540 : decode code 540 = .ok (.iload 4, 2) := by decide +kernel
theorem d_L_law_542 : decode code 542 = .ok (.iconst 1, 1) := by decide +kernel
theorem d_L_law_543 : decode code 543 = .ok (.iadd, 1) := by decide +kernel
theorem d_L_law_544 : decode code 544 = .ok (.iaload, 1) := by decide +kernel
theorem d_L_law_545 : decode code 545 = .ok (.aload_n 0, 1) := by decide +kernel
theorem d_L_law_546 : decode code 546 = .ok (.iload 4, 2) := by decide +kernel
theorem d_L_law_548 : decode code 548 = .ok (.iconst 2, 1) := by decide +kernel
theorem d_L_law_549 : decode code 549 = .ok (.iadd, 1) := by decide +kernel
theorem d_L_law_550 : decode code 550 = .ok (.iaload, 1) := by decide +kernel
theorem d_L_law_551 : decode code 551 = .ok (.aload_n 0, 1) := by decide +kernel
theorem d_L_law_552 : decode code 552 = .ok (.iload 4, 2) := by decide +kernel
theorem d_L_law_554 : decode code 554 = .ok (.iconst 3, 1) := by decide +kernel
theorem d_L_law_555 : decode code 555 = .ok (.iadd, 1) := by decide +kernel
theorem d_L_law_556 : decode code 556 = .ok (.iaload, 1) := by decide +kernel
theorem d_L_law_557 : decode code 557 = .ok (.aload_n 3, 1) := by decide +kernel
theorem d_L_law_558 : decode code 558 = .ok (.invokestatic 113, 3) := by decide +kernel
theorem d_L_law_561 : decode code 561 = .ok (.istore 5, 2) := by decide +kernel
theorem d_L_law_563 : decode code 563 = .ok (.aload_n 2, 1) := by decide +kernel
theorem d_L_law_564 : decode code 564 = .ok (.aload_n 0, 1) := by decide +kernel
theorem d_L_law_565 : decode code 565 = .ok (.iload 4, 2) := by decide +kernel
theorem d_L_law_567 : decode code 567 = .ok (.iconst 1, 1) := by decide +kernel
theorem d_L_law_568 : decode code 568 = .ok (.iadd, 1) := by decide +kernel
theorem d_L_law_569 : decode code 569 = .ok (.iaload, 1) := by decide +kernel
theorem d_L_law_570 : decode code 570 = .ok (.aload_n 0, 1) := by decide +kernel
theorem d_L_law_571 : decode code 571 = .ok (.iload 4, 2) := by decide +kernel
theorem d_L_law_573 : decode code 573 = .ok (.iconst 2, 1) := by decide +kernel
theorem d_L_law_574 : decode code 574 = .ok (.iadd, 1) := by decide +kernel
theorem d_L_law_575 : decode code 575 = .ok (.iaload, 1) := by decide +kernel
theorem d_L_law_576 : decode code 576 = .ok (.aload_n 0, 1) := by decide +kernel
theorem d_L_law_577 : decode code 577 = .ok (.iload 4, 2) := by decide +kernel
theorem d_L_law_579 : decode code 579 = .ok (.iconst 3, 1) := by decide +kernel
theorem d_L_law_580 : decode code 580 = .ok (.iadd, 1) := by decide +kernel
theorem d_L_law_581 : decode code 581 = .ok (.iaload, 1) := by decide +kernel
theorem d_L_law_582 : decode code 582 = .ok (.invokevirtual 115, 3) := by decide +kernel
theorem d_L_law_585 : decode code 585 = .ok (.istore 6, 2) := by decide +kernel
theorem d_L_law_587 : decode code 587 = .ok (.aload_n 2, 1) := by decide +kernel
theorem d_L_law_588 : decode code 588 = .ok (.invokevirtual 91, 3) := by decide +kernel
theorem d_L_law_591 : decode code 591 = .ok (.iload 5, 2) := by decide +kernel
theorem d_L_law_593 : decode code 593 = .ok (.if_icmp .eq 5, 3) := by decide +kernel
theorem d_L_law_596 : decode code 596 = .ok (.iconst 0, 1) := by decide +kernel
theorem d_L_law_597 : decode code 597 = .ok (.ireturn, 1) := by decide +kernel
theorem d_L_law_598 : decode code 598 = .ok (.iload 5, 2) := by decide +kernel
theorem d_L_law_600 : decode code 600 = .ok (.ifCond .ne 22, 3) := by decide +kernel
theorem d_L_law_603 : decode code 603 = .ok (.aload_n 3, 1) := by decide +kernel
theorem d_L_law_604 : decode code 604 = .ok (.iconst 0, 1) := by decide +kernel
theorem d_L_law_605 : decode code 605 = .ok (.laload, 1) := by decide +kernel
theorem d_L_law_606 : decode code 606 = .ok (.iload 6, 2) := by decide +kernel
theorem d_L_law_608 : decode code 608 = .ok (.ifCond .eq 7, 3) := by decide +kernel
theorem d_L_law_611 : decode code 611 = .ok (.lconst 1, 1) := by decide +kernel
theorem d_L_law_612 : decode code 612 = .ok (.goto 4, 3) := by decide +kernel
theorem d_L_law_615 : decode code 615 = .ok (.lconst 0, 1) := by decide +kernel
theorem d_L_law_616 : decode code 616 = .ok (.lcmp, 1) := by decide +kernel
theorem d_L_law_617 : decode code 617 = .ok (.ifCond .eq 5, 3) := by decide +kernel
