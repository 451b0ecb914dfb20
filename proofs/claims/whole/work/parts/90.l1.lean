/-! THE LAW: its seventeen cases -/
theorem i_law_0 : zins 176 0 = some (.new 7) := by decide +kernel
theorem i_law_3 : zins 176 3 = some (.dup) := by decide +kernel
theorem i_law_4 : zins 176 4 = some (.invokespecial 9) := by decide +kernel
theorem i_law_7 : zins 176 7 = some (.astore_n 1) := by decide +kernel
theorem i_law_8 : zins 176 8 = some (.new 10) := by decide +kernel
theorem i_law_11 : zins 176 11 = some (.dup) := by decide +kernel
theorem i_law_12 : zins 176 12 = some (.invokespecial 12) := by decide +kernel
theorem i_law_15 : zins 176 15 = some (.astore_n 2) := by decide +kernel
theorem i_law_16 : zins 176 16 = some (.iconst 0) := by decide +kernel
theorem i_law_17 : zins 176 17 = some (.istore_n 3) := by decide +kernel
theorem i_law_18 : zins 176 18 = some (.iload_n 3) := by decide +kernel
theorem i_law_19 : zins 176 19 = some (.aload_n 0) := by decide +kernel
theorem i_law_20 : zins 176 20 = some (.arraylength) := by decide +kernel
theorem i_law_21 : zins 176 21 = some (.bipush 6) := by decide +kernel
theorem i_law_23 : zins 176 23 = some (.isub) := by decide +kernel
theorem i_law_24 : zins 176 24 = some (.if_icmp .gt 603) := by decide +kernel
theorem i_law_27 : zins 176 27 = some (.aload_n 0) := by decide +kernel
theorem i_law_28 : zins 176 28 = some (.iload_n 3) := by decide +kernel
theorem i_law_29 : zins 176 29 = some (.iaload) := by decide +kernel
theorem i_law_30 : zins 176 30 = some (.bipush 31) := by decide +kernel
theorem i_law_32 : zins 176 32 = some (.iand) := by decide +kernel
theorem i_law_33 : zins 176 33 = some (.tableswitch 588 0 16 #[83, 136, 149, 162, 175, 188, 211, 244, 267, 280, 303, 346, 393, 416, 429, 492, 565]) := by decide +kernel
theorem i_law_116 : zins 176 116 = some (.aload_n 1) := by decide +kernel
theorem i_law_117 : zins 176 117 = some (.aload_n 0) := by decide +kernel
theorem i_law_118 : zins 176 118 = some (.iload_n 3) := by decide +kernel
theorem i_law_119 : zins 176 119 = some (.iconst 1) := by decide +kernel
theorem i_law_120 : zins 176 120 = some (.iadd) := by decide +kernel
theorem i_law_121 : zins 176 121 = some (.iaload) := by decide +kernel
theorem i_law_122 : zins 176 122 = some (.i2l) := by decide +kernel
theorem i_law_123 : zins 176 123 = some (.bipush 32) := by decide +kernel
theorem i_law_125 : zins 176 125 = some (.lshl) := by decide +kernel
theorem i_law_126 : zins 176 126 = some (.aload_n 0) := by decide +kernel
theorem i_law_127 : zins 176 127 = some (.iload_n 3) := by decide +kernel
theorem i_law_128 : zins 176 128 = some (.iconst 2) := by decide +kernel
theorem i_law_129 : zins 176 129 = some (.iadd) := by decide +kernel
theorem i_law_130 : zins 176 130 = some (.iaload) := by decide +kernel
theorem i_law_131 : zins 176 131 = some (.i2l) := by decide +kernel
theorem i_law_132 : zins 176 132 = some (.ldc2_w 13) := by decide +kernel
theorem i_law_135 : zins 176 135 = some (.land) := by decide +kernel
theorem i_law_136 : zins 176 136 = some (.lor) := by decide +kernel
theorem i_law_137 : zins 176 137 = some (.invokevirtual 15) := by decide +kernel
theorem i_law_140 : zins 176 140 = some (.aload_n 2) := by decide +kernel
theorem i_law_141 : zins 176 141 = some (.aload_n 0) := by decide +kernel
theorem i_law_142 : zins 176 142 = some (.iload_n 3) := by decide +kernel
theorem i_law_143 : zins 176 143 = some (.iconst 1) := by decide +kernel
theorem i_law_144 : zins 176 144 = some (.iadd) := by decide +kernel
theorem i_law_145 : zins 176 145 = some (.iaload) := by decide +kernel
theorem i_law_146 : zins 176 146 = some (.i2l) := by decide +kernel
theorem i_law_147 : zins 176 147 = some (.bipush 32) := by decide +kernel
theorem i_law_149 : zins 176 149 = some (.lshl) := by decide +kernel
theorem i_law_150 : zins 176 150 = some (.aload_n 0) := by decide +kernel
theorem i_law_151 : zins 176 151 = some (.iload_n 3) := by decide +kernel
theorem i_law_152 : zins 176 152 = some (.iconst 2) := by decide +kernel
theorem i_law_153 : zins 176 153 = some (.iadd) := by decide +kernel
theorem i_law_154 : zins 176 154 = some (.iaload) := by decide +kernel
theorem i_law_155 : zins 176 155 = some (.i2l) := by decide +kernel
theorem i_law_156 : zins 176 156 = some (.ldc2_w 13) := by decide +kernel
theorem i_law_159 : zins 176 159 = some (.land) := by decide +kernel
theorem i_law_160 : zins 176 160 = some (.lor) := by decide +kernel
theorem i_law_161 : zins 176 161 = some (.invokevirtual 19) := by decide +kernel
theorem i_law_164 : zins 176 164 = some (.if_icmp .eq 457) := by decide +kernel
theorem i_law_167 : zins 176 167 = some (.iconst 0) := by decide +kernel
theorem i_law_168 : zins 176 168 = some (.ireturn) := by decide +kernel
theorem i_law_169 : zins 176 169 = some (.aload_n 1) := by decide +kernel
theorem i_law_170 : zins 176 170 = some (.invokevirtual 20) := by decide +kernel
theorem i_law_173 : zins 176 173 = some (.aload_n 2) := by decide +kernel
theorem i_law_174 : zins 176 174 = some (.invokevirtual 24) := by decide +kernel
theorem i_law_177 : zins 176 177 = some (.if_icmp .eq 444) := by decide +kernel
theorem i_law_180 : zins 176 180 = some (.iconst 0) := by decide +kernel
theorem i_law_181 : zins 176 181 = some (.ireturn) := by decide +kernel
theorem i_law_182 : zins 176 182 = some (.aload_n 1) := by decide +kernel
theorem i_law_183 : zins 176 183 = some (.invokevirtual 25) := by decide +kernel
theorem i_law_186 : zins 176 186 = some (.aload_n 2) := by decide +kernel
theorem i_law_187 : zins 176 187 = some (.invokevirtual 28) := by decide +kernel
theorem i_law_190 : zins 176 190 = some (.if_icmp .eq 431) := by decide +kernel
theorem i_law_193 : zins 176 193 = some (.iconst 0) := by decide +kernel
theorem i_law_194 : zins 176 194 = some (.ireturn) := by decide +kernel
theorem i_law_195 : zins 176 195 = some (.aload_n 1) := by decide +kernel
theorem i_law_196 : zins 176 196 = some (.invokevirtual 29) := by decide +kernel
theorem i_law_199 : zins 176 199 = some (.aload_n 2) := by decide +kernel
theorem i_law_200 : zins 176 200 = some (.invokevirtual 33) := by decide +kernel
theorem i_law_203 : zins 176 203 = some (.if_icmp .eq 418) := by decide +kernel
theorem i_law_206 : zins 176 206 = some (.iconst 0) := by decide +kernel
theorem i_law_207 : zins 176 207 = some (.ireturn) := by decide +kernel
theorem i_law_208 : zins 176 208 = some (.aload_n 1) := by decide +kernel
theorem i_law_209 : zins 176 209 = some (.invokevirtual 34) := by decide +kernel
theorem i_law_212 : zins 176 212 = some (.aload_n 2) := by decide +kernel
theorem i_law_213 : zins 176 213 = some (.invokevirtual 37) := by decide +kernel
theorem i_law_216 : zins 176 216 = some (.if_icmp .eq 405) := by decide +kernel
theorem i_law_219 : zins 176 219 = some (.iconst 0) := by decide +kernel
theorem i_law_220 : zins 176 220 = some (.ireturn) := by decide +kernel
theorem i_law_221 : zins 176 221 = some (.aload_n 1) := by decide +kernel
theorem i_law_222 : zins 176 222 = some (.aload_n 0) := by decide +kernel
theorem i_law_223 : zins 176 223 = some (.iload_n 3) := by decide +kernel
theorem i_law_224 : zins 176 224 = some (.iconst 1) := by decide +kernel
theorem i_law_225 : zins 176 225 = some (.iadd) := by decide +kernel
theorem i_law_226 : zins 176 226 = some (.iaload) := by decide +kernel
theorem i_law_227 : zins 176 227 = some (.invokevirtual 38) := by decide +kernel
theorem i_law_230 : zins 176 230 = some (.aload_n 2) := by decide +kernel
theorem i_law_231 : zins 176 231 = some (.aload_n 0) := by decide +kernel
theorem i_law_232 : zins 176 232 = some (.iload_n 3) := by decide +kernel
theorem i_law_233 : zins 176 233 = some (.iconst 1) := by decide +kernel
theorem i_law_234 : zins 176 234 = some (.iadd) := by decide +kernel
theorem i_law_235 : zins 176 235 = some (.iaload) := by decide +kernel
theorem i_law_236 : zins 176 236 = some (.invokevirtual 42) := by decide +kernel
theorem i_law_239 : zins 176 239 = some (.if_icmp .eq 382) := by decide +kernel
theorem i_law_242 : zins 176 242 = some (.iconst 0) := by decide +kernel
theorem i_law_243 : zins 176 243 = some (.ireturn) := by decide +kernel
theorem i_law_244 : zins 176 244 = some (.aload_n 1) := by decide +kernel
theorem i_law_245 : zins 176 245 = some (.aload_n 0) := by decide +kernel
theorem i_law_246 : zins 176 246 = some (.iload_n 3) := by decide +kernel
theorem i_law_247 : zins 176 247 = some (.iconst 1) := by decide +kernel
theorem i_law_248 : zins 176 248 = some (.iadd) := by decide +kernel
theorem i_law_249 : zins 176 249 = some (.iaload) := by decide +kernel
theorem i_law_250 : zins 176 250 = some (.aload_n 0) := by decide +kernel
theorem i_law_251 : zins 176 251 = some (.iload_n 3) := by decide +kernel
theorem i_law_252 : zins 176 252 = some (.iconst 2) := by decide +kernel
theorem i_law_253 : zins 176 253 = some (.iadd) := by decide +kernel
theorem i_law_254 : zins 176 254 = some (.iaload) := by decide +kernel
theorem i_law_255 : zins 176 255 = some (.invokevirtual 43) := by decide +kernel
theorem i_law_258 : zins 176 258 = some (.aload_n 2) := by decide +kernel
theorem i_law_259 : zins 176 259 = some (.aload_n 0) := by decide +kernel
theorem i_law_260 : zins 176 260 = some (.iload_n 3) := by decide +kernel
theorem i_law_261 : zins 176 261 = some (.iconst 1) := by decide +kernel
theorem i_law_262 : zins 176 262 = some (.iadd) := by decide +kernel
theorem i_law_263 : zins 176 263 = some (.iaload) := by decide +kernel
theorem i_law_264 : zins 176 264 = some (.aload_n 0) := by decide +kernel
theorem i_law_265 : zins 176 265 = some (.iload_n 3) := by decide +kernel
theorem i_law_266 : zins 176 266 = some (.iconst 2) := by decide +kernel
theorem i_law_267 : zins 176 267 = some (.iadd) := by decide +kernel
theorem i_law_268 : zins 176 268 = some (.iaload) := by decide +kernel
theorem i_law_269 : zins 176 269 = some (.invokevirtual 47) := by decide +kernel
theorem i_law_272 : zins 176 272 = some (.if_icmp .eq 349) := by decide +kernel
theorem i_law_275 : zins 176 275 = some (.iconst 0) := by decide +kernel
theorem i_law_276 : zins 176 276 = some (.ireturn) := by decide +kernel
theorem i_law_277 : zins 176 277 = some (.aload_n 1) := by decide +kernel
theorem i_law_278 : zins 176 278 = some (.aload_n 0) := by decide +kernel
theorem i_law_279 : zins 176 279 = some (.iload_n 3) := by decide +kernel
theorem i_law_280 : zins 176 280 = some (.iconst 1) := by decide +kernel
theorem i_law_281 : zins 176 281 = some (.iadd) := by decide +kernel
theorem i_law_282 : zins 176 282 = some (.iaload) := by decide +kernel
theorem i_law_283 : zins 176 283 = some (.invokevirtual 48) := by decide +kernel
theorem i_law_286 : zins 176 286 = some (.aload_n 2) := by decide +kernel
theorem i_law_287 : zins 176 287 = some (.aload_n 0) := by decide +kernel
theorem i_law_288 : zins 176 288 = some (.iload_n 3) := by decide +kernel
theorem i_law_289 : zins 176 289 = some (.iconst 1) := by decide +kernel
theorem i_law_290 : zins 176 290 = some (.iadd) := by decide +kernel
theorem i_law_291 : zins 176 291 = some (.iaload) := by decide +kernel
theorem i_law_292 : zins 176 292 = some (.invokevirtual 51) := by decide +kernel
theorem i_law_295 : zins 176 295 = some (.if_icmp .eq 326) := by decide +kernel
theorem i_law_298 : zins 176 298 = some (.iconst 0) := by decide +kernel
theorem i_law_299 : zins 176 299 = some (.ireturn) := by decide +kernel
theorem i_law_300 : zins 176 300 = some (.aload_n 1) := by decide +kernel
theorem i_law_301 : zins 176 301 = some (.invokevirtual 52) := by decide +kernel
theorem i_law_304 : zins 176 304 = some (.aload_n 2) := by decide +kernel
theorem i_law_305 : zins 176 305 = some (.invokevirtual 55) := by decide +kernel
theorem i_law_308 : zins 176 308 = some (.if_icmp .eq 313) := by decide +kernel
theorem i_law_311 : zins 176 311 = some (.iconst 0) := by decide +kernel
theorem i_law_312 : zins 176 312 = some (.ireturn) := by decide +kernel
theorem i_law_313 : zins 176 313 = some (.aload_n 1) := by decide +kernel
theorem i_law_314 : zins 176 314 = some (.aload_n 0) := by decide +kernel
theorem i_law_315 : zins 176 315 = some (.iload_n 3) := by decide +kernel
theorem i_law_316 : zins 176 316 = some (.iconst 1) := by decide +kernel
theorem i_law_317 : zins 176 317 = some (.iadd) := by decide +kernel
theorem i_law_318 : zins 176 318 = some (.iaload) := by decide +kernel
theorem i_law_319 : zins 176 319 = some (.invokevirtual 56) := by decide +kernel
theorem i_law_322 : zins 176 322 = some (.aload_n 2) := by decide +kernel
theorem i_law_323 : zins 176 323 = some (.aload_n 0) := by decide +kernel
theorem i_law_324 : zins 176 324 = some (.iload_n 3) := by decide +kernel
theorem i_law_325 : zins 176 325 = some (.iconst 1) := by decide +kernel
theorem i_law_326 : zins 176 326 = some (.iadd) := by decide +kernel
theorem i_law_327 : zins 176 327 = some (.iaload) := by decide +kernel
theorem i_law_328 : zins 176 328 = some (.invokevirtual 60) := by decide +kernel
theorem i_law_331 : zins 176 331 = some (.if_icmp .eq 290) := by decide +kernel
theorem i_law_334 : zins 176 334 = some (.iconst 0) := by decide +kernel
theorem i_law_335 : zins 176 335 = some (.ireturn) := by decide +kernel
theorem i_law_336 : zins 176 336 = some (.aload_n 1) := by decide +kernel
theorem i_law_337 : zins 176 337 = some (.aload_n 0) := by decide +kernel
theorem i_law_338 : zins 176 338 = some (.iload_n 3) := by decide +kernel
theorem i_law_339 : zins 176 339 = some (.iconst 1) := by decide +kernel
theorem i_law_340 : zins 176 340 = some (.iadd) := by decide +kernel
theorem i_law_341 : zins 176 341 = some (.iaload) := by decide +kernel
theorem i_law_342 : zins 176 342 = some (.aload_n 0) := by decide +kernel
theorem i_law_343 : zins 176 343 = some (.iload_n 3) := by decide +kernel
theorem i_law_344 : zins 176 344 = some (.iconst 2) := by decide +kernel
theorem i_law_345 : zins 176 345 = some (.iadd) := by decide +kernel
theorem i_law_346 : zins 176 346 = some (.iaload) := by decide +kernel
theorem i_law_347 : zins 176 347 = some (.aload_n 0) := by decide +kernel
theorem i_law_348 : zins 176 348 = some (.iload_n 3) := by decide +kernel
theorem i_law_349 : zins 176 349 = some (.iconst 3) := by decide +kernel
theorem i_law_350 : zins 176 350 = some (.iadd) := by decide +kernel
theorem i_law_351 : zins 176 351 = some (.iaload) := by decide +kernel
theorem i_law_352 : zins 176 352 = some (.invokevirtual 61) := by decide +kernel
theorem i_law_355 : zins 176 355 = some (.aload_n 2) := by decide +kernel
theorem i_law_356 : zins 176 356 = some (.aload_n 0) := by decide +kernel
theorem i_law_357 : zins 176 357 = some (.iload_n 3) := by decide +kernel
theorem i_law_358 : zins 176 358 = some (.iconst 1) := by decide +kernel
theorem i_law_359 : zins 176 359 = some (.iadd) := by decide +kernel
theorem i_law_360 : zins 176 360 = some (.iaload) := by decide +kernel
theorem i_law_361 : zins 176 361 = some (.aload_n 0) := by decide +kernel
theorem i_law_362 : zins 176 362 = some (.iload_n 3) := by decide +kernel
theorem i_law_363 : zins 176 363 = some (.iconst 2) := by decide +kernel
theorem i_law_364 : zins 176 364 = some (.iadd) := by decide +kernel
theorem i_law_365 : zins 176 365 = some (.iaload) := by decide +kernel
theorem i_law_366 : zins 176 366 = some (.aload_n 0) := by decide +kernel
theorem i_law_367 : zins 176 367 = some (.iload_n 3) := by decide +kernel
theorem i_law_368 : zins 176 368 = some (.iconst 3) := by decide +kernel
theorem i_law_369 : zins 176 369 = some (.iadd) := by decide +kernel
theorem i_law_370 : zins 176 370 = some (.iaload) := by decide +kernel
theorem i_law_371 : zins 176 371 = some (.invokevirtual 65) := by decide +kernel
theorem i_law_374 : zins 176 374 = some (.if_icmp .eq 247) := by decide +kernel
theorem i_law_377 : zins 176 377 = some (.iconst 0) := by decide +kernel
theorem i_law_378 : zins 176 378 = some (.ireturn) := by decide +kernel
theorem i_law_379 : zins 176 379 = some (.aload_n 1) := by decide +kernel
theorem i_law_380 : zins 176 380 = some (.aload_n 0) := by decide +kernel
theorem i_law_381 : zins 176 381 = some (.iload_n 3) := by decide +kernel
theorem i_law_382 : zins 176 382 = some (.iconst 1) := by decide +kernel
theorem i_law_383 : zins 176 383 = some (.iadd) := by decide +kernel
theorem i_law_384 : zins 176 384 = some (.iaload) := by decide +kernel
theorem i_law_385 : zins 176 385 = some (.aload_n 0) := by decide +kernel
theorem i_law_386 : zins 176 386 = some (.iload_n 3) := by decide +kernel
theorem i_law_387 : zins 176 387 = some (.iconst 2) := by decide +kernel
theorem i_law_388 : zins 176 388 = some (.iadd) := by decide +kernel
theorem i_law_389 : zins 176 389 = some (.iaload) := by decide +kernel
theorem i_law_390 : zins 176 390 = some (.i2c) := by decide +kernel
theorem i_law_391 : zins 176 391 = some (.aload_n 0) := by decide +kernel
theorem i_law_392 : zins 176 392 = some (.iload_n 3) := by decide +kernel
theorem i_law_393 : zins 176 393 = some (.iconst 3) := by decide +kernel
theorem i_law_394 : zins 176 394 = some (.iadd) := by decide +kernel
theorem i_law_395 : zins 176 395 = some (.iaload) := by decide +kernel
theorem i_law_396 : zins 176 396 = some (.i2c) := by decide +kernel
theorem i_law_397 : zins 176 397 = some (.invokevirtual 66) := by decide +kernel
theorem i_law_400 : zins 176 400 = some (.aload_n 2) := by decide +kernel
theorem i_law_401 : zins 176 401 = some (.aload_n 0) := by decide +kernel
theorem i_law_402 : zins 176 402 = some (.iload_n 3) := by decide +kernel
theorem i_law_403 : zins 176 403 = some (.iconst 1) := by decide +kernel
theorem i_law_404 : zins 176 404 = some (.iadd) := by decide +kernel
theorem i_law_405 : zins 176 405 = some (.iaload) := by decide +kernel
theorem i_law_406 : zins 176 406 = some (.aload_n 0) := by decide +kernel
theorem i_law_407 : zins 176 407 = some (.iload_n 3) := by decide +kernel
theorem i_law_408 : zins 176 408 = some (.iconst 2) := by decide +kernel
theorem i_law_409 : zins 176 409 = some (.iadd) := by decide +kernel
theorem i_law_410 : zins 176 410 = some (.iaload) := by decide +kernel
theorem i_law_411 : zins 176 411 = some (.i2c) := by decide +kernel
theorem i_law_412 : zins 176 412 = some (.aload_n 0) := by decide +kernel
theorem i_law_413 : zins 176 413 = some (.iload_n 3) := by decide +kernel
theorem i_law_414 : zins 176 414 = some (.iconst 3) := by decide +kernel
theorem i_law_415 : zins 176 415 = some (.iadd) := by decide +kernel
theorem i_law_416 : zins 176 416 = some (.iaload) := by decide +kernel
theorem i_law_417 : zins 176 417 = some (.i2c) := by decide +kernel
theorem i_law_418 : zins 176 418 = some (.invokevirtual 70) := by decide +kernel
theorem i_law_421 : zins 176 421 = some (.if_icmp .eq 200) := by decide +kernel
theorem i_law_424 : zins 176 424 = some (.iconst 0) := by decide +kernel
theorem i_law_425 : zins 176 425 = some (.ireturn) := by decide +kernel
theorem i_law_426 : zins 176 426 = some (.aload_n 1) := by decide +kernel
theorem i_law_427 : zins 176 427 = some (.aload_n 0) := by decide +kernel
theorem i_law_428 : zins 176 428 = some (.iload_n 3) := by decide +kernel
theorem i_law_429 : zins 176 429 = some (.iconst 1) := by decide +kernel
theorem i_law_430 : zins 176 430 = some (.iadd) := by decide +kernel
theorem i_law_431 : zins 176 431 = some (.iaload) := by decide +kernel
theorem i_law_432 : zins 176 432 = some (.invokevirtual 71) := by decide +kernel
theorem i_law_435 : zins 176 435 = some (.aload_n 2) := by decide +kernel
theorem i_law_436 : zins 176 436 = some (.aload_n 0) := by decide +kernel
theorem i_law_437 : zins 176 437 = some (.iload_n 3) := by decide +kernel
theorem i_law_438 : zins 176 438 = some (.iconst 1) := by decide +kernel
theorem i_law_439 : zins 176 439 = some (.iadd) := by decide +kernel
theorem i_law_440 : zins 176 440 = some (.iaload) := by decide +kernel
theorem i_law_441 : zins 176 441 = some (.invokevirtual 74) := by decide +kernel
theorem i_law_444 : zins 176 444 = some (.if_icmp .eq 177) := by decide +kernel
theorem i_law_447 : zins 176 447 = some (.iconst 0) := by decide +kernel
theorem i_law_448 : zins 176 448 = some (.ireturn) := by decide +kernel
theorem i_law_449 : zins 176 449 = some (.aload_n 1) := by decide +kernel
theorem i_law_450 : zins 176 450 = some (.invokevirtual 75) := by decide +kernel
theorem i_law_453 : zins 176 453 = some (.aload_n 2) := by decide +kernel
theorem i_law_454 : zins 176 454 = some (.invokevirtual 78) := by decide +kernel
theorem i_law_457 : zins 176 457 = some (.if_icmp .eq 164) := by decide +kernel
theorem i_law_460 : zins 176 460 = some (.iconst 0) := by decide +kernel
theorem i_law_461 : zins 176 461 = some (.ireturn) := by decide +kernel
theorem i_law_462 : zins 176 462 = some (.aload_n 1) := by decide +kernel
theorem i_law_463 : zins 176 463 = some (.aload_n 0) := by decide +kernel
theorem i_law_464 : zins 176 464 = some (.iload_n 3) := by decide +kernel
theorem i_law_465 : zins 176 465 = some (.iconst 1) := by decide +kernel
theorem i_law_466 : zins 176 466 = some (.iadd) := by decide +kernel
theorem i_law_467 : zins 176 467 = some (.iaload) := by decide +kernel
theorem i_law_468 : zins 176 468 = some (.aload_n 0) := by decide +kernel
theorem i_law_469 : zins 176 469 = some (.iload_n 3) := by decide +kernel
theorem i_law_470 : zins 176 470 = some (.iconst 2) := by decide +kernel
theorem i_law_471 : zins 176 471 = some (.iadd) := by decide +kernel
theorem i_law_472 : zins 176 472 = some (.iaload) := by decide +kernel
theorem i_law_473 : zins 176 473 = some (.aload_n 0) := by decide +kernel
theorem i_law_474 : zins 176 474 = some (.iload_n 3) := by decide +kernel
theorem i_law_475 : zins 176 475 = some (.iconst 3) := by decide +kernel
theorem i_law_476 : zins 176 476 = some (.iadd) := by decide +kernel
theorem i_law_477 : zins 176 477 = some (.iaload) := by decide +kernel
theorem i_law_478 : zins 176 478 = some (.aload_n 0) := by decide +kernel
theorem i_law_479 : zins 176 479 = some (.iload_n 3) := by decide +kernel
theorem i_law_480 : zins 176 480 = some (.iconst 4) := by decide +kernel
theorem i_law_481 : zins 176 481 = some (.iadd) := by decide +kernel
theorem i_law_482 : zins 176 482 = some (.iaload) := by decide +kernel
theorem i_law_483 : zins 176 483 = some (.aload_n 0) := by decide +kernel
theorem i_law_484 : zins 176 484 = some (.iload_n 3) := by decide +kernel
theorem i_law_485 : zins 176 485 = some (.iconst 5) := by decide +kernel
theorem i_law_486 : zins 176 486 = some (.iadd) := by decide +kernel
theorem i_law_487 : zins 176 487 = some (.iaload) := by decide +kernel
theorem i_law_488 : zins 176 488 = some (.invokevirtual 79) := by decide +kernel
theorem i_law_491 : zins 176 491 = some (.aload_n 2) := by decide +kernel
theorem i_law_492 : zins 176 492 = some (.aload_n 0) := by decide +kernel
theorem i_law_493 : zins 176 493 = some (.iload_n 3) := by decide +kernel
theorem i_law_494 : zins 176 494 = some (.iconst 1) := by decide +kernel
theorem i_law_495 : zins 176 495 = some (.iadd) := by decide +kernel
theorem i_law_496 : zins 176 496 = some (.iaload) := by decide +kernel
theorem i_law_497 : zins 176 497 = some (.aload_n 0) := by decide +kernel
theorem i_law_498 : zins 176 498 = some (.iload_n 3) := by decide +kernel
theorem i_law_499 : zins 176 499 = some (.iconst 2) := by decide +kernel
theorem i_law_500 : zins 176 500 = some (.iadd) := by decide +kernel
theorem i_law_501 : zins 176 501 = some (.iaload) := by decide +kernel
theorem i_law_502 : zins 176 502 = some (.aload_n 0) := by decide +kernel
theorem i_law_503 : zins 176 503 = some (.iload_n 3) := by decide +kernel
theorem i_law_504 : zins 176 504 = some (.iconst 3) := by decide +kernel
theorem i_law_505 : zins 176 505 = some (.iadd) := by decide +kernel
theorem i_law_506 : zins 176 506 = some (.iaload) := by decide +kernel
theorem i_law_507 : zins 176 507 = some (.aload_n 0) := by decide +kernel
theorem i_law_508 : zins 176 508 = some (.iload_n 3) := by decide +kernel
theorem i_law_509 : zins 176 509 = some (.iconst 4) := by decide +kernel
theorem i_law_510 : zins 176 510 = some (.iadd) := by decide +kernel
theorem i_law_511 : zins 176 511 = some (.iaload) := by decide +kernel
theorem i_law_512 : zins 176 512 = some (.aload_n 0) := by decide +kernel
theorem i_law_513 : zins 176 513 = some (.iload_n 3) := by decide +kernel
theorem i_law_514 : zins 176 514 = some (.iconst 5) := by decide +kernel
theorem i_law_515 : zins 176 515 = some (.iadd) := by decide +kernel
theorem i_law_516 : zins 176 516 = some (.iaload) := by decide +kernel
theorem i_law_517 : zins 176 517 = some (.invokevirtual 83) := by decide +kernel
theorem i_law_520 : zins 176 520 = some (.if_icmp .eq 101) := by decide +kernel
theorem i_law_523 : zins 176 523 = some (.iconst 0) := by decide +kernel
theorem i_law_524 : zins 176 524 = some (.ireturn) := by decide +kernel
theorem i_law_525 : zins 176 525 = some (.aload_n 1) := by decide +kernel
theorem i_law_526 : zins 176 526 = some (.aload_n 0) := by decide +kernel
theorem i_law_527 : zins 176 527 = some (.iload_n 3) := by decide +kernel
theorem i_law_528 : zins 176 528 = some (.iconst 1) := by decide +kernel
theorem i_law_529 : zins 176 529 = some (.iadd) := by decide +kernel
theorem i_law_530 : zins 176 530 = some (.iaload) := by decide +kernel
theorem i_law_531 : zins 176 531 = some (.i2c) := by decide +kernel
theorem i_law_532 : zins 176 532 = some (.aload_n 0) := by decide +kernel
theorem i_law_533 : zins 176 533 = some (.iload_n 3) := by decide +kernel
theorem i_law_534 : zins 176 534 = some (.iconst 2) := by decide +kernel
theorem i_law_535 : zins 176 535 = some (.iadd) := by decide +kernel
theorem i_law_536 : zins 176 536 = some (.iaload) := by decide +kernel
theorem i_law_537 : zins 176 537 = some (.i2c) := by decide +kernel
theorem i_law_538 : zins 176 538 = some (.aload_n 0) := by decide +kernel
theorem i_law_539 : zins 176 539 = some (.iload_n 3) := by decide +kernel
theorem i_law_540 : zins 176 540 = some (.iconst 3) := by decide +kernel
theorem i_law_541 : zins 176 541 = some (.iadd) := by decide +kernel
theorem i_law_542 : zins 176 542 = some (.iaload) := by decide +kernel
theorem i_law_543 : zins 176 543 = some (.i2c) := by decide +kernel
theorem i_law_544 : zins 176 544 = some (.aload_n 0) := by decide +kernel
theorem i_law_545 : zins 176 545 = some (.iload_n 3) := by decide +kernel
theorem i_law_546 : zins 176 546 = some (.iconst 4) := by decide +kernel
theorem i_law_547 : zins 176 547 = some (.iadd) := by decide +kernel
theorem i_law_548 : zins 176 548 = some (.iaload) := by decide +kernel
theorem i_law_549 : zins 176 549 = some (.i2c) := by decide +kernel
theorem i_law_550 : zins 176 550 = some (.aload_n 0) := by decide +kernel
theorem i_law_551 : zins 176 551 = some (.iload_n 3) := by decide +kernel
theorem i_law_552 : zins 176 552 = some (.iconst 5) := by decide +kernel
theorem i_law_553 : zins 176 553 = some (.iadd) := by decide +kernel
theorem i_law_554 : zins 176 554 = some (.iaload) := by decide +kernel
theorem i_law_555 : zins 176 555 = some (.i2c) := by decide +kernel
theorem i_law_556 : zins 176 556 = some (.invokevirtual 84) := by decide +kernel
theorem i_law_559 : zins 176 559 = some (.aload_n 2) := by decide +kernel
theorem i_law_560 : zins 176 560 = some (.aload_n 0) := by decide +kernel
theorem i_law_561 : zins 176 561 = some (.iload_n 3) := by decide +kernel
theorem i_law_562 : zins 176 562 = some (.iconst 1) := by decide +kernel
theorem i_law_563 : zins 176 563 = some (.iadd) := by decide +kernel
theorem i_law_564 : zins 176 564 = some (.iaload) := by decide +kernel
theorem i_law_565 : zins 176 565 = some (.i2c) := by decide +kernel
theorem i_law_566 : zins 176 566 = some (.aload_n 0) := by decide +kernel
theorem i_law_567 : zins 176 567 = some (.iload_n 3) := by decide +kernel
theorem i_law_568 : zins 176 568 = some (.iconst 2) := by decide +kernel
theorem i_law_569 : zins 176 569 = some (.iadd) := by decide +kernel
theorem i_law_570 : zins 176 570 = some (.iaload) := by decide +kernel
theorem i_law_571 : zins 176 571 = some (.i2c) := by decide +kernel
theorem i_law_572 : zins 176 572 = some (.aload_n 0) := by decide +kernel
theorem i_law_573 : zins 176 573 = some (.iload_n 3) := by decide +kernel
theorem i_law_574 : zins 176 574 = some (.iconst 3) := by decide +kernel
theorem i_law_575 : zins 176 575 = some (.iadd) := by decide +kernel
theorem i_law_576 : zins 176 576 = some (.iaload) := by decide +kernel
theorem i_law_577 : zins 176 577 = some (.i2c) := by decide +kernel
theorem i_law_578 : zins 176 578 = some (.aload_n 0) := by decide +kernel
theorem i_law_579 : zins 176 579 = some (.iload_n 3) := by decide +kernel
theorem i_law_580 : zins 176 580 = some (.iconst 4) := by decide +kernel
theorem i_law_581 : zins 176 581 = some (.iadd) := by decide +kernel
theorem i_law_582 : zins 176 582 = some (.iaload) := by decide +kernel
theorem i_law_583 : zins 176 583 = some (.i2c) := by decide +kernel
theorem i_law_584 : zins 176 584 = some (.aload_n 0) := by decide +kernel
theorem i_law_585 : zins 176 585 = some (.iload_n 3) := by decide +kernel
theorem i_law_586 : zins 176 586 = some (.iconst 5) := by decide +kernel
theorem i_law_587 : zins 176 587 = some (.iadd) := by decide +kernel
theorem i_law_588 : zins 176 588 = some (.iaload) := by decide +kernel
theorem i_law_589 : zins 176 589 = some (.i2c) := by decide +kernel
theorem i_law_590 : zins 176 590 = some (.invokevirtual 88) := by decide +kernel
theorem i_law_593 : zins 176 593 = some (.if_icmp .eq 28) := by decide +kernel
theorem i_law_596 : zins 176 596 = some (.iconst 0) := by decide +kernel
theorem i_law_597 : zins 176 597 = some (.ireturn) := by decide +kernel
theorem i_law_598 : zins 176 598 = some (.aload_n 1) := by decide +kernel
theorem i_law_599 : zins 176 599 = some (.aload_n 0) := by decide +kernel
theorem i_law_600 : zins 176 600 = some (.iload_n 3) := by decide +kernel
theorem i_law_601 : zins 176 601 = some (.iconst 1) := by decide +kernel
theorem i_law_602 : zins 176 602 = some (.iadd) := by decide +kernel
theorem i_law_603 : zins 176 603 = some (.iaload) := by decide +kernel
theorem i_law_604 : zins 176 604 = some (.invokevirtual 89) := by decide +kernel
theorem i_law_607 : zins 176 607 = some (.aload_n 2) := by decide +kernel
theorem i_law_608 : zins 176 608 = some (.aload_n 0) := by decide +kernel
theorem i_law_609 : zins 176 609 = some (.iload_n 3) := by decide +kernel
theorem i_law_610 : zins 176 610 = some (.iconst 1) := by decide +kernel
theorem i_law_611 : zins 176 611 = some (.iadd) := by decide +kernel
theorem i_law_612 : zins 176 612 = some (.iaload) := by decide +kernel
theorem i_law_613 : zins 176 613 = some (.invokevirtual 92) := by decide +kernel
theorem i_law_616 : zins 176 616 = some (.if_icmp .eq 5) := by decide +kernel
theorem i_law_619 : zins 176 619 = some (.iconst 0) := by decide +kernel
theorem i_law_620 : zins 176 620 = some (.ireturn) := by decide +kernel
theorem i_law_621 : zins 176 621 = some (.iinc 3 6) := by decide +kernel
theorem i_law_624 : zins 176 624 = some (.goto (-606)) := by decide +kernel
theorem i_law_627 : zins 176 627 = some (.iconst 1) := by decide +kernel
theorem i_law_628 : zins 176 628 = some (.ireturn) := by decide +kernel
theorem sc_ld {X : zX} {d pc : Nat} {r : List Value} {h : zH} {u : Option Value × zH} {i : Nat} {n : Int} (k : Nat) (h1 : zins 176 pc = some (.aload_n 0)) (h2 : zins 176 (pc + 1) = some (.iload_n 3)) (h3 : zins 176 (pc + 1 + 1) = some (.iconst n)) (h4 : zins 176 (pc + 1 + 1 + 1) = some .iadd) (h5 : zins 176 (pc + 1 + 1 + 1 + 1) = some .iaload) (hv : Int32.ofInt n = nI k) (hz : zlow h) (hi : i + 6 ≤ X.1) (hn : X.1 < 2 ^ 30) (hk : k ≤ 5) (K : zR X d 176 (pc + 5) [some (.ref 0), some (.ref 100), some (.ref 129), some (.int (nI i))] (.int (X.2.1 (i + k)) :: r) h u) : zR X d 176 pc [some (.ref 0), some (.ref 100), some (.ref 129), some (.int (nI i))] r h u := by
  refine zr_aload_n h1 rfl ?_
  refine zr_iload_n h2 rfl ?_
  refine zn_iconst k h3 hv ?_
  refine zn_iadd h4 ?_
  refine zr_ialoadK h5 (hz 0 (by decide)) (f := fun j => .int (X.2.1 j)) (n := X.1) rfl ?_ ?_
  · rw [nI_toInt (by omega)]
    omega
  · rw [nI_clamp (by omega)]
    exact K
theorem zch_c (x : Int32) : zch ((x.toUInt32 % 65536).toInt32) := by
  have e : vp_nar .char x = (x.toUInt32 % 65536).toInt32 := by rw [vp_nar_char]; rfl
  rw [← e]
  exact zch_vp x
theorem w_law_0 (X : zX) (d : Nat) (hX : X.2.2.category = 1) {h : zH} {ms : zMS} (H : Inv h ms) (i : Nat) (hi : i + 6 ≤ X.1) (hn : X.1 < 2 ^ 30) : ∃ h2 ms2, Inv h2 ms2 ∧ h.1 ≤ h2.1 ∧ h2.1 ≤ h.1 + 8 ∧ h.2.1 ≤ h2.2.1 ∧ h2.2.1 ≤ h.2.1 + 59 ∧ ∀ u, zR X (d + 13) 176 621 [some (.ref 0), some (.ref 100), some (.ref 129), some (.int (nI i))] [] h2 u → zR X (d + 13) 176 116 [some (.ref 0), some (.ref 100), some (.ref 129), some (.int (nI i))] [] h u := by
  have hz : zlow h := H.2.2.1
  obtain ⟨v, h1, h2, ms2, t1, t2, ⟨ms1, h1R⟩, hz1, t3, b1, b2, b3, b4⟩ := s_type (d := d) H ((((X.2.1 (i + 1)).toInt64 <<< ((32 : Int32).toInt64 &&& 63)) ||| ((X.2.1 (i + 2)).toInt64 &&& 4294967295)))
  obtain ⟨-, -, -, -, sp, la, b, -, -, -, -, ⟨hO, -⟩, -⟩ := id H
  refine ⟨h2, ms2, t3, b1, b2, b3, b4, fun u K => ?_⟩
  refine zr_aload_n i_law_116 rfl ?_
  refine sc_ld 1 i_law_117 i_law_118 i_law_119 i_law_120 i_law_121 rfl hz hi hn (by decide) ?_
  refine zr_i2l i_law_122 ?_
  refine zr_bipush i_law_123 (v := 32) (by decide) ?_
  refine zr_lshl i_law_125 ?_
  refine sc_ld 2 i_law_126 i_law_127 i_law_128 i_law_129 i_law_130 rfl hz hi hn (by decide) ?_
  refine zr_i2l i_law_131 ?_
  refine zr_ldc2 i_law_132 (v := 4294967295) rfl ?_
  refine zr_land i_law_135 ?_
  refine zr_lor i_law_136 ?_
  refine zr_cv1 i_law_137 rfl (by decide) (zrcv_of hO) (Nat.le_of_ble_eq_true rfl) (Nat.le_of_ble_eq_true rfl) t1 ?_
  refine zr_aload_n i_law_140 rfl ?_
  refine sc_ld 1 i_law_141 i_law_142 i_law_143 i_law_144 i_law_145 rfl hz1 hi hn (by decide) ?_
  refine zr_i2l i_law_146 ?_
  refine zr_bipush i_law_147 (v := 32) (by decide) ?_
  refine zr_lshl i_law_149 ?_
  refine sc_ld 2 i_law_150 i_law_151 i_law_152 i_law_153 i_law_154 rfl hz1 hi hn (by decide) ?_
  refine zr_i2l i_law_155 ?_
  refine zr_ldc2 i_law_156 (v := 4294967295) rfl ?_
  refine zr_land i_law_159 ?_
  refine zr_lor i_law_160 ?_
  refine zr_cv1 i_law_161 rfl (by decide) (zrcv_of (h1R 0 (by decide))) (Nat.le_of_ble_eq_true rfl) (Nat.le_of_ble_eq_true rfl) t2 ?_
  exact zr_icmp_eq 621 i_law_164 (by decide) (fun _ => K) (fun q => absurd rfl q)
theorem w_law_1 (X : zX) (d : Nat) (hX : X.2.2.category = 1) {h : zH} {ms : zMS} (H : Inv h ms) (i : Nat) (hi : i + 6 ≤ X.1) (hn : X.1 < 2 ^ 30) : ∃ h2 ms2, Inv h2 ms2 ∧ h.1 ≤ h2.1 ∧ h2.1 ≤ h.1 + 8 ∧ h.2.1 ≤ h2.2.1 ∧ h2.2.1 ≤ h.2.1 + 59 ∧ ∀ u, zR X (d + 13) 176 621 [some (.ref 0), some (.ref 100), some (.ref 129), some (.int (nI i))] [] h2 u → zR X (d + 13) 176 169 [some (.ref 0), some (.ref 100), some (.ref 129), some (.int (nI i))] [] h u := by
  have hz : zlow h := H.2.2.1
  obtain ⟨v, h1, h2, ms2, t1, t2, ⟨ms1, h1R⟩, hz1, t3, b1, b2, b3, b4⟩ := s_end (d := d) hX H
  obtain ⟨-, -, -, -, sp, la, b, -, -, -, -, ⟨hO, -⟩, -⟩ := id H
  refine ⟨h2, ms2, t3, b1, b2, b3, b4, fun u K => ?_⟩
  refine zr_aload_n i_law_169 rfl ?_
  refine zr_cv0 i_law_170 rfl (by decide) (zrcv_of hO) (Nat.le_of_ble_eq_true rfl) (Nat.le_of_ble_eq_true rfl) t1 ?_
  refine zr_aload_n i_law_173 rfl ?_
  refine zr_cv0 i_law_174 rfl (by decide) (zrcv_of (h1R 0 (by decide))) (Nat.le_of_ble_eq_true rfl) (Nat.le_of_ble_eq_true rfl) t2 ?_
  exact zr_icmp_eq 621 i_law_177 (by decide) (fun _ => K) (fun q => absurd rfl q)
theorem w_law_2 (X : zX) (d : Nat) (hX : X.2.2.category = 1) {h : zH} {ms : zMS} (H : Inv h ms) (i : Nat) (hi : i + 6 ≤ X.1) (hn : X.1 < 2 ^ 30) : ∃ h2 ms2, Inv h2 ms2 ∧ h.1 ≤ h2.1 ∧ h2.1 ≤ h.1 + 8 ∧ h.2.1 ≤ h2.2.1 ∧ h2.2.1 ≤ h.2.1 + 59 ∧ ∀ u, zR X (d + 13) 176 621 [some (.ref 0), some (.ref 100), some (.ref 129), some (.int (nI i))] [] h2 u → zR X (d + 13) 176 182 [some (.ref 0), some (.ref 100), some (.ref 129), some (.int (nI i))] [] h u := by
  have hz : zlow h := H.2.2.1
  obtain ⟨v, h1, h2, ms2, t1, t2, ⟨ms1, h1R⟩, hz1, t3, b1, b2, b3, b4⟩ := stp_ask H (a_reason (d := d) H )
  obtain ⟨-, -, -, -, sp, la, b, -, -, -, -, ⟨hO, -⟩, -⟩ := id H
  refine ⟨h2, ms2, t3, b1, b2, b3, b4, fun u K => ?_⟩
  refine zr_aload_n i_law_182 rfl ?_
  refine zr_cv0 i_law_183 rfl (by decide) (zrcv_of hO) (Nat.le_of_ble_eq_true rfl) (Nat.le_of_ble_eq_true rfl) t1 ?_
  refine zr_aload_n i_law_186 rfl ?_
  refine zr_cv0 i_law_187 rfl (by decide) (zrcv_of (h1R 0 (by decide))) (Nat.le_of_ble_eq_true rfl) (Nat.le_of_ble_eq_true rfl) t2 ?_
  exact zr_icmp_eq 621 i_law_190 (by decide) (fun _ => K) (fun q => absurd rfl q)
theorem w_law_3 (X : zX) (d : Nat) (hX : X.2.2.category = 1) {h : zH} {ms : zMS} (H : Inv h ms) (i : Nat) (hi : i + 6 ≤ X.1) (hn : X.1 < 2 ^ 30) : ∃ h2 ms2, Inv h2 ms2 ∧ h.1 ≤ h2.1 ∧ h2.1 ≤ h.1 + 8 ∧ h.2.1 ≤ h2.2.1 ∧ h2.2.1 ≤ h.2.1 + 59 ∧ ∀ u, zR X (d + 13) 176 621 [some (.ref 0), some (.ref 100), some (.ref 129), some (.int (nI i))] [] h2 u → zR X (d + 13) 176 195 [some (.ref 0), some (.ref 100), some (.ref 129), some (.int (nI i))] [] h u := by
  have hz : zlow h := H.2.2.1
  obtain ⟨v, h1, h2, ms2, t1, t2, ⟨ms1, h1R⟩, hz1, t3, b1, b2, b3, b4⟩ := stp_ask H (a_replayed (d := d) H )
  obtain ⟨-, -, -, -, sp, la, b, -, -, -, -, ⟨hO, -⟩, -⟩ := id H
  refine ⟨h2, ms2, t3, b1, b2, b3, b4, fun u K => ?_⟩
  refine zr_aload_n i_law_195 rfl ?_
  refine zr_cv0 i_law_196 rfl (by decide) (zrcv_of hO) (Nat.le_of_ble_eq_true rfl) (Nat.le_of_ble_eq_true rfl) t1 ?_
  refine zr_aload_n i_law_199 rfl ?_
  refine zr_cv0 i_law_200 rfl (by decide) (zrcv_of (h1R 0 (by decide))) (Nat.le_of_ble_eq_true rfl) (Nat.le_of_ble_eq_true rfl) t2 ?_
  exact zr_icmp_eq 621 i_law_203 (by decide) (fun _ => K) (fun q => absurd rfl q)
theorem w_law_4 (X : zX) (d : Nat) (hX : X.2.2.category = 1) {h : zH} {ms : zMS} (H : Inv h ms) (i : Nat) (hi : i + 6 ≤ X.1) (hn : X.1 < 2 ^ 30) : ∃ h2 ms2, Inv h2 ms2 ∧ h.1 ≤ h2.1 ∧ h2.1 ≤ h.1 + 8 ∧ h.2.1 ≤ h2.2.1 ∧ h2.2.1 ≤ h.2.1 + 59 ∧ ∀ u, zR X (d + 13) 176 621 [some (.ref 0), some (.ref 100), some (.ref 129), some (.int (nI i))] [] h2 u → zR X (d + 13) 176 208 [some (.ref 0), some (.ref 100), some (.ref 129), some (.int (nI i))] [] h u := by
  have hz : zlow h := H.2.2.1
  obtain ⟨v, h1, h2, ms2, t1, t2, ⟨ms1, h1R⟩, hz1, t3, b1, b2, b3, b4⟩ := stp_ask H (a_receiptLength (d := d) H )
  obtain ⟨-, -, -, -, sp, la, b, -, -, -, -, ⟨hO, -⟩, -⟩ := id H
  refine ⟨h2, ms2, t3, b1, b2, b3, b4, fun u K => ?_⟩
  refine zr_aload_n i_law_208 rfl ?_
  refine zr_cv0 i_law_209 rfl (by decide) (zrcv_of hO) (Nat.le_of_ble_eq_true rfl) (Nat.le_of_ble_eq_true rfl) t1 ?_
  refine zr_aload_n i_law_212 rfl ?_
  refine zr_cv0 i_law_213 rfl (by decide) (zrcv_of (h1R 0 (by decide))) (Nat.le_of_ble_eq_true rfl) (Nat.le_of_ble_eq_true rfl) t2 ?_
  exact zr_icmp_eq 621 i_law_216 (by decide) (fun _ => K) (fun q => absurd rfl q)
theorem w_law_5 (X : zX) (d : Nat) (hX : X.2.2.category = 1) {h : zH} {ms : zMS} (H : Inv h ms) (i : Nat) (hi : i + 6 ≤ X.1) (hn : X.1 < 2 ^ 30) : ∃ h2 ms2, Inv h2 ms2 ∧ h.1 ≤ h2.1 ∧ h2.1 ≤ h.1 + 8 ∧ h.2.1 ≤ h2.2.1 ∧ h2.2.1 ≤ h.2.1 + 59 ∧ ∀ u, zR X (d + 13) 176 621 [some (.ref 0), some (.ref 100), some (.ref 129), some (.int (nI i))] [] h2 u → zR X (d + 13) 176 221 [some (.ref 0), some (.ref 100), some (.ref 129), some (.int (nI i))] [] h u := by
  have hz : zlow h := H.2.2.1
  obtain ⟨v, h1, h2, ms2, t1, t2, ⟨ms1, h1R⟩, hz1, t3, b1, b2, b3, b4⟩ := stp_ask H (a_receipt (d := d) H ((X.2.1 (i + 1))))
  obtain ⟨-, -, -, -, sp, la, b, -, -, -, -, ⟨hO, -⟩, -⟩ := id H
  refine ⟨h2, ms2, t3, b1, b2, b3, b4, fun u K => ?_⟩
  refine zr_aload_n i_law_221 rfl ?_
  refine sc_ld 1 i_law_222 i_law_223 i_law_224 i_law_225 i_law_226 rfl hz hi hn (by decide) ?_
  refine zr_cv1 i_law_227 rfl (by decide) (zrcv_of hO) (Nat.le_of_ble_eq_true rfl) (Nat.le_of_ble_eq_true rfl) t1 ?_
  refine zr_aload_n i_law_230 rfl ?_
  refine sc_ld 1 i_law_231 i_law_232 i_law_233 i_law_234 i_law_235 rfl hz1 hi hn (by decide) ?_
  refine zr_cv1 i_law_236 rfl (by decide) (zrcv_of (h1R 0 (by decide))) (Nat.le_of_ble_eq_true rfl) (Nat.le_of_ble_eq_true rfl) t2 ?_
  exact zr_icmp_eq 621 i_law_239 (by decide) (fun _ => K) (fun q => absurd rfl q)
theorem w_law_6 (X : zX) (d : Nat) (hX : X.2.2.category = 1) {h : zH} {ms : zMS} (H : Inv h ms) (i : Nat) (hi : i + 6 ≤ X.1) (hn : X.1 < 2 ^ 30) : ∃ h2 ms2, Inv h2 ms2 ∧ h.1 ≤ h2.1 ∧ h2.1 ≤ h.1 + 8 ∧ h.2.1 ≤ h2.2.1 ∧ h2.2.1 ≤ h.2.1 + 59 ∧ ∀ u, zR X (d + 13) 176 621 [some (.ref 0), some (.ref 100), some (.ref 129), some (.int (nI i))] [] h2 u → zR X (d + 13) 176 244 [some (.ref 0), some (.ref 100), some (.ref 129), some (.int (nI i))] [] h u := by
  have hz : zlow h := H.2.2.1
  obtain ⟨v, h1, h2, ms2, t1, t2, ⟨ms1, h1R⟩, hz1, t3, b1, b2, b3, b4⟩ := stp_ask H (a_patient (d := d) H ((X.2.1 (i + 1))) ((X.2.1 (i + 2))))
  obtain ⟨-, -, -, -, sp, la, b, -, -, -, -, ⟨hO, -⟩, -⟩ := id H
  refine ⟨h2, ms2, t3, b1, b2, b3, b4, fun u K => ?_⟩
  refine zr_aload_n i_law_244 rfl ?_
  refine sc_ld 1 i_law_245 i_law_246 i_law_247 i_law_248 i_law_249 rfl hz hi hn (by decide) ?_
  refine sc_ld 2 i_law_250 i_law_251 i_law_252 i_law_253 i_law_254 rfl hz hi hn (by decide) ?_
  refine zr_cv2 i_law_255 rfl (by decide) (zrcv_of hO) (Nat.le_of_ble_eq_true rfl) (Nat.le_of_ble_eq_true rfl) t1 ?_
  refine zr_aload_n i_law_258 rfl ?_
  refine sc_ld 1 i_law_259 i_law_260 i_law_261 i_law_262 i_law_263 rfl hz1 hi hn (by decide) ?_
  refine sc_ld 2 i_law_264 i_law_265 i_law_266 i_law_267 i_law_268 rfl hz1 hi hn (by decide) ?_
  refine zr_cv2 i_law_269 rfl (by decide) (zrcv_of (h1R 0 (by decide))) (Nat.le_of_ble_eq_true rfl) (Nat.le_of_ble_eq_true rfl) t2 ?_
  exact zr_icmp_eq 621 i_law_272 (by decide) (fun _ => K) (fun q => absurd rfl q)
theorem w_law_7 (X : zX) (d : Nat) (hX : X.2.2.category = 1) {h : zH} {ms : zMS} (H : Inv h ms) (i : Nat) (hi : i + 6 ≤ X.1) (hn : X.1 < 2 ^ 30) : ∃ h2 ms2, Inv h2 ms2 ∧ h.1 ≤ h2.1 ∧ h2.1 ≤ h.1 + 8 ∧ h.2.1 ≤ h2.2.1 ∧ h2.2.1 ≤ h.2.1 + 59 ∧ ∀ u, zR X (d + 13) 176 621 [some (.ref 0), some (.ref 100), some (.ref 129), some (.int (nI i))] [] h2 u → zR X (d + 13) 176 277 [some (.ref 0), some (.ref 100), some (.ref 129), some (.int (nI i))] [] h u := by
  have hz : zlow h := H.2.2.1
  obtain ⟨v, h1, h2, ms2, t1, t2, ⟨ms1, h1R⟩, hz1, t3, b1, b2, b3, b4⟩ := stp_ask H (a_bedOf (d := d) H ((X.2.1 (i + 1))))
  obtain ⟨-, -, -, -, sp, la, b, -, -, -, -, ⟨hO, -⟩, -⟩ := id H
  refine ⟨h2, ms2, t3, b1, b2, b3, b4, fun u K => ?_⟩
  refine zr_aload_n i_law_277 rfl ?_
  refine sc_ld 1 i_law_278 i_law_279 i_law_280 i_law_281 i_law_282 rfl hz hi hn (by decide) ?_
  refine zr_cv1 i_law_283 rfl (by decide) (zrcv_of hO) (Nat.le_of_ble_eq_true rfl) (Nat.le_of_ble_eq_true rfl) t1 ?_
  refine zr_aload_n i_law_286 rfl ?_
  refine sc_ld 1 i_law_287 i_law_288 i_law_289 i_law_290 i_law_291 rfl hz1 hi hn (by decide) ?_
  refine zr_cv1 i_law_292 rfl (by decide) (zrcv_of (h1R 0 (by decide))) (Nat.le_of_ble_eq_true rfl) (Nat.le_of_ble_eq_true rfl) t2 ?_
  exact zr_icmp_eq 621 i_law_295 (by decide) (fun _ => K) (fun q => absurd rfl q)
theorem w_law_8 (X : zX) (d : Nat) (hX : X.2.2.category = 1) {h : zH} {ms : zMS} (H : Inv h ms) (i : Nat) (hi : i + 6 ≤ X.1) (hn : X.1 < 2 ^ 30) : ∃ h2 ms2, Inv h2 ms2 ∧ h.1 ≤ h2.1 ∧ h2.1 ≤ h.1 + 8 ∧ h.2.1 ≤ h2.2.1 ∧ h2.2.1 ≤ h.2.1 + 59 ∧ ∀ u, zR X (d + 13) 176 621 [some (.ref 0), some (.ref 100), some (.ref 129), some (.int (nI i))] [] h2 u → zR X (d + 13) 176 300 [some (.ref 0), some (.ref 100), some (.ref 129), some (.int (nI i))] [] h u := by
  have hz : zlow h := H.2.2.1
  obtain ⟨v, h1, h2, ms2, t1, t2, ⟨ms1, h1R⟩, hz1, t3, b1, b2, b3, b4⟩ := stp_ask H (a_inBeds (d := d) H )
  obtain ⟨-, -, -, -, sp, la, b, -, -, -, -, ⟨hO, -⟩, -⟩ := id H
  refine ⟨h2, ms2, t3, b1, b2, b3, b4, fun u K => ?_⟩
  refine zr_aload_n i_law_300 rfl ?_
  refine zr_cv0 i_law_301 rfl (by decide) (zrcv_of hO) (Nat.le_of_ble_eq_true rfl) (Nat.le_of_ble_eq_true rfl) t1 ?_
  refine zr_aload_n i_law_304 rfl ?_
  refine zr_cv0 i_law_305 rfl (by decide) (zrcv_of (h1R 0 (by decide))) (Nat.le_of_ble_eq_true rfl) (Nat.le_of_ble_eq_true rfl) t2 ?_
  exact zr_icmp_eq 621 i_law_308 (by decide) (fun _ => K) (fun q => absurd rfl q)
theorem w_law_9 (X : zX) (d : Nat) (hX : X.2.2.category = 1) {h : zH} {ms : zMS} (H : Inv h ms) (i : Nat) (hi : i + 6 ≤ X.1) (hn : X.1 < 2 ^ 30) : ∃ h2 ms2, Inv h2 ms2 ∧ h.1 ≤ h2.1 ∧ h2.1 ≤ h.1 + 8 ∧ h.2.1 ≤ h2.2.1 ∧ h2.2.1 ≤ h.2.1 + 59 ∧ ∀ u, zR X (d + 13) 176 621 [some (.ref 0), some (.ref 100), some (.ref 129), some (.int (nI i))] [] h2 u → zR X (d + 13) 176 313 [some (.ref 0), some (.ref 100), some (.ref 129), some (.int (nI i))] [] h u := by
  have hz : zlow h := H.2.2.1
  obtain ⟨v, h1, h2, ms2, t1, t2, ⟨ms1, h1R⟩, hz1, t3, b1, b2, b3, b4⟩ := stp_ask H (a_known (d := d) H ((X.2.1 (i + 1))))
  obtain ⟨-, -, -, -, sp, la, b, -, -, -, -, ⟨hO, -⟩, -⟩ := id H
  refine ⟨h2, ms2, t3, b1, b2, b3, b4, fun u K => ?_⟩
  refine zr_aload_n i_law_313 rfl ?_
  refine sc_ld 1 i_law_314 i_law_315 i_law_316 i_law_317 i_law_318 rfl hz hi hn (by decide) ?_
  refine zr_cv1 i_law_319 rfl (by decide) (zrcv_of hO) (Nat.le_of_ble_eq_true rfl) (Nat.le_of_ble_eq_true rfl) t1 ?_
  refine zr_aload_n i_law_322 rfl ?_
  refine sc_ld 1 i_law_323 i_law_324 i_law_325 i_law_326 i_law_327 rfl hz1 hi hn (by decide) ?_
  refine zr_cv1 i_law_328 rfl (by decide) (zrcv_of (h1R 0 (by decide))) (Nat.le_of_ble_eq_true rfl) (Nat.le_of_ble_eq_true rfl) t2 ?_
  exact zr_icmp_eq 621 i_law_331 (by decide) (fun _ => K) (fun q => absurd rfl q)
theorem w_law_10 (X : zX) (d : Nat) (hX : X.2.2.category = 1) {h : zH} {ms : zMS} (H : Inv h ms) (i : Nat) (hi : i + 6 ≤ X.1) (hn : X.1 < 2 ^ 30) : ∃ h2 ms2, Inv h2 ms2 ∧ h.1 ≤ h2.1 ∧ h2.1 ≤ h.1 + 8 ∧ h.2.1 ≤ h2.2.1 ∧ h2.2.1 ≤ h.2.1 + 59 ∧ ∀ u, zR X (d + 13) 176 621 [some (.ref 0), some (.ref 100), some (.ref 129), some (.int (nI i))] [] h2 u → zR X (d + 13) 176 336 [some (.ref 0), some (.ref 100), some (.ref 129), some (.int (nI i))] [] h u := by
  have hz : zlow h := H.2.2.1
  obtain ⟨v, h1, h2, ms2, t1, t2, ⟨ms1, h1R⟩, hz1, t3, b1, b2, b3, b4⟩ := stp_ask H (a_name (d := d) H ((X.2.1 (i + 1))) ((X.2.1 (i + 2))) ((X.2.1 (i + 3))))
  obtain ⟨-, -, -, -, sp, la, b, -, -, -, -, ⟨hO, -⟩, -⟩ := id H
  refine ⟨h2, ms2, t3, b1, b2, b3, b4, fun u K => ?_⟩
  refine zr_aload_n i_law_336 rfl ?_
  refine sc_ld 1 i_law_337 i_law_338 i_law_339 i_law_340 i_law_341 rfl hz hi hn (by decide) ?_
  refine sc_ld 2 i_law_342 i_law_343 i_law_344 i_law_345 i_law_346 rfl hz hi hn (by decide) ?_
  refine sc_ld 3 i_law_347 i_law_348 i_law_349 i_law_350 i_law_351 rfl hz hi hn (by decide) ?_
  refine zr_cv3 i_law_352 rfl (by decide) (zrcv_of hO) (Nat.le_of_ble_eq_true rfl) (Nat.le_of_ble_eq_true rfl) t1 ?_
  refine zr_aload_n i_law_355 rfl ?_
  refine sc_ld 1 i_law_356 i_law_357 i_law_358 i_law_359 i_law_360 rfl hz1 hi hn (by decide) ?_
  refine sc_ld 2 i_law_361 i_law_362 i_law_363 i_law_364 i_law_365 rfl hz1 hi hn (by decide) ?_
  refine sc_ld 3 i_law_366 i_law_367 i_law_368 i_law_369 i_law_370 rfl hz1 hi hn (by decide) ?_
  refine zr_cv3 i_law_371 rfl (by decide) (zrcv_of (h1R 0 (by decide))) (Nat.le_of_ble_eq_true rfl) (Nat.le_of_ble_eq_true rfl) t2 ?_
  exact zr_icmp_eq 621 i_law_374 (by decide) (fun _ => K) (fun q => absurd rfl q)
theorem w_law_11 (X : zX) (d : Nat) (hX : X.2.2.category = 1) {h : zH} {ms : zMS} (H : Inv h ms) (i : Nat) (hi : i + 6 ≤ X.1) (hn : X.1 < 2 ^ 30) : ∃ h2 ms2, Inv h2 ms2 ∧ h.1 ≤ h2.1 ∧ h2.1 ≤ h.1 + 8 ∧ h.2.1 ≤ h2.2.1 ∧ h2.2.1 ≤ h.2.1 + 59 ∧ ∀ u, zR X (d + 13) 176 621 [some (.ref 0), some (.ref 100), some (.ref 129), some (.int (nI i))] [] h2 u → zR X (d + 13) 176 379 [some (.ref 0), some (.ref 100), some (.ref 129), some (.int (nI i))] [] h u := by
  have hz : zlow h := H.2.2.1
  obtain ⟨v, h1, h2, ms2, t1, t2, ⟨ms1, h1R⟩, hz1, t3, b1, b2, b3, b4⟩ := stp_ask H (a_result (d := d) H ((X.2.1 (i + 1))) (((X.2.1 (i + 2)).toUInt32 % 65536).toInt32) (((X.2.1 (i + 3)).toUInt32 % 65536).toInt32))
  obtain ⟨-, -, -, -, sp, la, b, -, -, -, -, ⟨hO, -⟩, -⟩ := id H
  refine ⟨h2, ms2, t3, b1, b2, b3, b4, fun u K => ?_⟩
  refine zr_aload_n i_law_379 rfl ?_
  refine sc_ld 1 i_law_380 i_law_381 i_law_382 i_law_383 i_law_384 rfl hz hi hn (by decide) ?_
  refine sc_ld 2 i_law_385 i_law_386 i_law_387 i_law_388 i_law_389 rfl hz hi hn (by decide) ?_
  refine zr_i2c i_law_390 ?_
  refine sc_ld 3 i_law_391 i_law_392 i_law_393 i_law_394 i_law_395 rfl hz hi hn (by decide) ?_
  refine zr_i2c i_law_396 ?_
  refine zr_cv3 i_law_397 rfl (by decide) (zrcv_of hO) (Nat.le_of_ble_eq_true rfl) (Nat.le_of_ble_eq_true rfl) t1 ?_
  refine zr_aload_n i_law_400 rfl ?_
  refine sc_ld 1 i_law_401 i_law_402 i_law_403 i_law_404 i_law_405 rfl hz1 hi hn (by decide) ?_
  refine sc_ld 2 i_law_406 i_law_407 i_law_408 i_law_409 i_law_410 rfl hz1 hi hn (by decide) ?_
  refine zr_i2c i_law_411 ?_
  refine sc_ld 3 i_law_412 i_law_413 i_law_414 i_law_415 i_law_416 rfl hz1 hi hn (by decide) ?_
  refine zr_i2c i_law_417 ?_
  refine zr_cv3 i_law_418 rfl (by decide) (zrcv_of (h1R 0 (by decide))) (Nat.le_of_ble_eq_true rfl) (Nat.le_of_ble_eq_true rfl) t2 ?_
  exact zr_icmp_eq 621 i_law_421 (by decide) (fun _ => K) (fun q => absurd rfl q)
theorem w_law_12 (X : zX) (d : Nat) (hX : X.2.2.category = 1) {h : zH} {ms : zMS} (H : Inv h ms) (i : Nat) (hi : i + 6 ≤ X.1) (hn : X.1 < 2 ^ 30) : ∃ h2 ms2, Inv h2 ms2 ∧ h.1 ≤ h2.1 ∧ h2.1 ≤ h.1 + 8 ∧ h.2.1 ≤ h2.2.1 ∧ h2.2.1 ≤ h.2.1 + 59 ∧ ∀ u, zR X (d + 13) 176 621 [some (.ref 0), some (.ref 100), some (.ref 129), some (.int (nI i))] [] h2 u → zR X (d + 13) 176 426 [some (.ref 0), some (.ref 100), some (.ref 129), some (.int (nI i))] [] h u := by
  have hz : zlow h := H.2.2.1
  obtain ⟨v, h1, h2, ms2, t1, t2, ⟨ms1, h1R⟩, hz1, t3, b1, b2, b3, b4⟩ := stp_ask H (a_results (d := d) H ((X.2.1 (i + 1))))
  obtain ⟨-, -, -, -, sp, la, b, -, -, -, -, ⟨hO, -⟩, -⟩ := id H
  refine ⟨h2, ms2, t3, b1, b2, b3, b4, fun u K => ?_⟩
  refine zr_aload_n i_law_426 rfl ?_
  refine sc_ld 1 i_law_427 i_law_428 i_law_429 i_law_430 i_law_431 rfl hz hi hn (by decide) ?_
  refine zr_cv1 i_law_432 rfl (by decide) (zrcv_of hO) (Nat.le_of_ble_eq_true rfl) (Nat.le_of_ble_eq_true rfl) t1 ?_
  refine zr_aload_n i_law_435 rfl ?_
  refine sc_ld 1 i_law_436 i_law_437 i_law_438 i_law_439 i_law_440 rfl hz1 hi hn (by decide) ?_
  refine zr_cv1 i_law_441 rfl (by decide) (zrcv_of (h1R 0 (by decide))) (Nat.le_of_ble_eq_true rfl) (Nat.le_of_ble_eq_true rfl) t2 ?_
  exact zr_icmp_eq 621 i_law_444 (by decide) (fun _ => K) (fun q => absurd rfl q)
theorem w_law_13 (X : zX) (d : Nat) (hX : X.2.2.category = 1) {h : zH} {ms : zMS} (H : Inv h ms) (i : Nat) (hi : i + 6 ≤ X.1) (hn : X.1 < 2 ^ 30) : ∃ h2 ms2, Inv h2 ms2 ∧ h.1 ≤ h2.1 ∧ h2.1 ≤ h.1 + 8 ∧ h.2.1 ≤ h2.2.1 ∧ h2.2.1 ≤ h.2.1 + 59 ∧ ∀ u, zR X (d + 13) 176 621 [some (.ref 0), some (.ref 100), some (.ref 129), some (.int (nI i))] [] h2 u → zR X (d + 13) 176 449 [some (.ref 0), some (.ref 100), some (.ref 129), some (.int (nI i))] [] h u := by
  have hz : zlow h := H.2.2.1
  obtain ⟨v, h1, h2, ms2, t1, t2, ⟨ms1, h1R⟩, hz1, t3, b1, b2, b3, b4⟩ := stp_ask H (a_segments (d := d) H )
  obtain ⟨-, -, -, -, sp, la, b, -, -, -, -, ⟨hO, -⟩, -⟩ := id H
  refine ⟨h2, ms2, t3, b1, b2, b3, b4, fun u K => ?_⟩
  refine zr_aload_n i_law_449 rfl ?_
  refine zr_cv0 i_law_450 rfl (by decide) (zrcv_of hO) (Nat.le_of_ble_eq_true rfl) (Nat.le_of_ble_eq_true rfl) t1 ?_
  refine zr_aload_n i_law_453 rfl ?_
  refine zr_cv0 i_law_454 rfl (by decide) (zrcv_of (h1R 0 (by decide))) (Nat.le_of_ble_eq_true rfl) (Nat.le_of_ble_eq_true rfl) t2 ?_
  exact zr_icmp_eq 621 i_law_457 (by decide) (fun _ => K) (fun q => absurd rfl q)
theorem w_law_14 (X : zX) (d : Nat) (hX : X.2.2.category = 1) {h : zH} {ms : zMS} (H : Inv h ms) (i : Nat) (hi : i + 6 ≤ X.1) (hn : X.1 < 2 ^ 30) : ∃ h2 ms2, Inv h2 ms2 ∧ h.1 ≤ h2.1 ∧ h2.1 ≤ h.1 + 8 ∧ h.2.1 ≤ h2.2.1 ∧ h2.2.1 ≤ h.2.1 + 59 ∧ ∀ u, zR X (d + 13) 176 621 [some (.ref 0), some (.ref 100), some (.ref 129), some (.int (nI i))] [] h2 u → zR X (d + 13) 176 462 [some (.ref 0), some (.ref 100), some (.ref 129), some (.int (nI i))] [] h u := by
  have hz : zlow h := H.2.2.1
  obtain ⟨v, h1, h2, ms2, t1, t2, ⟨ms1, h1R⟩, hz1, t3, b1, b2, b3, b4⟩ := stp_ask H (a_text (d := d) H ((X.2.1 (i + 1))) ((X.2.1 (i + 2))) ((X.2.1 (i + 3))) ((X.2.1 (i + 4))) ((X.2.1 (i + 5))))
  obtain ⟨-, -, -, -, sp, la, b, -, -, -, -, ⟨hO, -⟩, -⟩ := id H
  refine ⟨h2, ms2, t3, b1, b2, b3, b4, fun u K => ?_⟩
  refine zr_aload_n i_law_462 rfl ?_
  refine sc_ld 1 i_law_463 i_law_464 i_law_465 i_law_466 i_law_467 rfl hz hi hn (by decide) ?_
  refine sc_ld 2 i_law_468 i_law_469 i_law_470 i_law_471 i_law_472 rfl hz hi hn (by decide) ?_
  refine sc_ld 3 i_law_473 i_law_474 i_law_475 i_law_476 i_law_477 rfl hz hi hn (by decide) ?_
  refine sc_ld 4 i_law_478 i_law_479 i_law_480 i_law_481 i_law_482 rfl hz hi hn (by decide) ?_
  refine sc_ld 5 i_law_483 i_law_484 i_law_485 i_law_486 i_law_487 rfl hz hi hn (by decide) ?_
  refine zr_cv5 i_law_488 rfl (by decide) (zrcv_of hO) (Nat.le_of_ble_eq_true rfl) (Nat.le_of_ble_eq_true rfl) t1 ?_
  refine zr_aload_n i_law_491 rfl ?_
  refine sc_ld 1 i_law_492 i_law_493 i_law_494 i_law_495 i_law_496 rfl hz1 hi hn (by decide) ?_
  refine sc_ld 2 i_law_497 i_law_498 i_law_499 i_law_500 i_law_501 rfl hz1 hi hn (by decide) ?_
  refine sc_ld 3 i_law_502 i_law_503 i_law_504 i_law_505 i_law_506 rfl hz1 hi hn (by decide) ?_
  refine sc_ld 4 i_law_507 i_law_508 i_law_509 i_law_510 i_law_511 rfl hz1 hi hn (by decide) ?_
  refine sc_ld 5 i_law_512 i_law_513 i_law_514 i_law_515 i_law_516 rfl hz1 hi hn (by decide) ?_
  refine zr_cv5 i_law_517 rfl (by decide) (zrcv_of (h1R 0 (by decide))) (Nat.le_of_ble_eq_true rfl) (Nat.le_of_ble_eq_true rfl) t2 ?_
  exact zr_icmp_eq 621 i_law_520 (by decide) (fun _ => K) (fun q => absurd rfl q)
theorem w_law_15 (X : zX) (d : Nat) (hX : X.2.2.category = 1) {h : zH} {ms : zMS} (H : Inv h ms) (i : Nat) (hi : i + 6 ≤ X.1) (hn : X.1 < 2 ^ 30) : ∃ h2 ms2, Inv h2 ms2 ∧ h.1 ≤ h2.1 ∧ h2.1 ≤ h.1 + 8 ∧ h.2.1 ≤ h2.2.1 ∧ h2.2.1 ≤ h.2.1 + 59 ∧ ∀ u, zR X (d + 13) 176 621 [some (.ref 0), some (.ref 100), some (.ref 129), some (.int (nI i))] [] h2 u → zR X (d + 13) 176 525 [some (.ref 0), some (.ref 100), some (.ref 129), some (.int (nI i))] [] h u := by
  have hz : zlow h := H.2.2.1
  obtain ⟨v, h1, h2, ms2, t1, t2, ⟨ms1, h1R⟩, hz1, t3, b1, b2, b3, b4⟩ := s_write (d := d) hX H (((X.2.1 (i + 1)).toUInt32 % 65536).toInt32) (((X.2.1 (i + 2)).toUInt32 % 65536).toInt32) (((X.2.1 (i + 3)).toUInt32 % 65536).toInt32) (((X.2.1 (i + 4)).toUInt32 % 65536).toInt32) (((X.2.1 (i + 5)).toUInt32 % 65536).toInt32) (zch_c _) (zch_c _) (zch_c _) (zch_c _) (zch_c _)
  obtain ⟨-, -, -, -, sp, la, b, -, -, -, -, ⟨hO, -⟩, -⟩ := id H
  refine ⟨h2, ms2, t3, b1, b2, b3, b4, fun u K => ?_⟩
  refine zr_aload_n i_law_525 rfl ?_
  refine sc_ld 1 i_law_526 i_law_527 i_law_528 i_law_529 i_law_530 rfl hz hi hn (by decide) ?_
  refine zr_i2c i_law_531 ?_
  refine sc_ld 2 i_law_532 i_law_533 i_law_534 i_law_535 i_law_536 rfl hz hi hn (by decide) ?_
  refine zr_i2c i_law_537 ?_
  refine sc_ld 3 i_law_538 i_law_539 i_law_540 i_law_541 i_law_542 rfl hz hi hn (by decide) ?_
  refine zr_i2c i_law_543 ?_
  refine sc_ld 4 i_law_544 i_law_545 i_law_546 i_law_547 i_law_548 rfl hz hi hn (by decide) ?_
  refine zr_i2c i_law_549 ?_
  refine sc_ld 5 i_law_550 i_law_551 i_law_552 i_law_553 i_law_554 rfl hz hi hn (by decide) ?_
  refine zr_i2c i_law_555 ?_
  refine zr_cv5 i_law_556 rfl (by decide) (zrcv_of hO) (Nat.le_of_ble_eq_true rfl) (Nat.le_of_ble_eq_true rfl) t1 ?_
  refine zr_aload_n i_law_559 rfl ?_
  refine sc_ld 1 i_law_560 i_law_561 i_law_562 i_law_563 i_law_564 rfl hz1 hi hn (by decide) ?_
  refine zr_i2c i_law_565 ?_
  refine sc_ld 2 i_law_566 i_law_567 i_law_568 i_law_569 i_law_570 rfl hz1 hi hn (by decide) ?_
  refine zr_i2c i_law_571 ?_
  refine sc_ld 3 i_law_572 i_law_573 i_law_574 i_law_575 i_law_576 rfl hz1 hi hn (by decide) ?_
  refine zr_i2c i_law_577 ?_
  refine sc_ld 4 i_law_578 i_law_579 i_law_580 i_law_581 i_law_582 rfl hz1 hi hn (by decide) ?_
  refine zr_i2c i_law_583 ?_
  refine sc_ld 5 i_law_584 i_law_585 i_law_586 i_law_587 i_law_588 rfl hz1 hi hn (by decide) ?_
  refine zr_i2c i_law_589 ?_
  refine zr_cv5 i_law_590 rfl (by decide) (zrcv_of (h1R 0 (by decide))) (Nat.le_of_ble_eq_true rfl) (Nat.le_of_ble_eq_true rfl) t2 ?_
  exact zr_icmp_eq 621 i_law_593 (by decide) (fun _ => K) (fun q => absurd rfl q)
theorem w_law_16 (X : zX) (d : Nat) (hX : X.2.2.category = 1) {h : zH} {ms : zMS} (H : Inv h ms) (i : Nat) (hi : i + 6 ≤ X.1) (hn : X.1 < 2 ^ 30) : ∃ h2 ms2, Inv h2 ms2 ∧ h.1 ≤ h2.1 ∧ h2.1 ≤ h.1 + 8 ∧ h.2.1 ≤ h2.2.1 ∧ h2.2.1 ≤ h.2.1 + 59 ∧ ∀ u, zR X (d + 13) 176 621 [some (.ref 0), some (.ref 100), some (.ref 129), some (.int (nI i))] [] h2 u → zR X (d + 13) 176 598 [some (.ref 0), some (.ref 100), some (.ref 129), some (.int (nI i))] [] h u := by
  have hz : zlow h := H.2.2.1
  obtain ⟨v, h1, h2, ms2, t1, t2, ⟨ms1, h1R⟩, hz1, t3, b1, b2, b3, b4⟩ := stp_ask H (a_written (d := d) H ((X.2.1 (i + 1))))
  obtain ⟨-, -, -, -, sp, la, b, -, -, -, -, ⟨hO, -⟩, -⟩ := id H
  refine ⟨h2, ms2, t3, b1, b2, b3, b4, fun u K => ?_⟩
  refine zr_aload_n i_law_598 rfl ?_
  refine sc_ld 1 i_law_599 i_law_600 i_law_601 i_law_602 i_law_603 rfl hz hi hn (by decide) ?_
  refine zr_cv1 i_law_604 rfl (by decide) (zrcv_of hO) (Nat.le_of_ble_eq_true rfl) (Nat.le_of_ble_eq_true rfl) t1 ?_
  refine zr_aload_n i_law_607 rfl ?_
  refine sc_ld 1 i_law_608 i_law_609 i_law_610 i_law_611 i_law_612 rfl hz1 hi hn (by decide) ?_
  refine zr_cv1 i_law_613 rfl (by decide) (zrcv_of (h1R 0 (by decide))) (Nat.le_of_ble_eq_true rfl) (Nat.le_of_ble_eq_true rfl) t2 ?_
  exact zr_icmp_eq 621 i_law_616 (by decide) (fun _ => K) (fun q => absurd rfl q)
