theorem dL_law_0 : decode cL_law 0 = .ok (.new 8, 3) := by decide +kernel
theorem dL_law_3 : decode cL_law 3 = .ok (.dup, 1) := by decide +kernel
theorem dL_law_4 : decode cL_law 4 = .ok (.invokespecial 15, 3) := by decide +kernel
theorem dL_law_7 : decode cL_law 7 = .ok (.astore_n 1, 1) := by decide +kernel
theorem dL_law_8 : decode cL_law 8 = .ok (.new 16, 3) := by decide +kernel
theorem dL_law_11 : decode cL_law 11 = .ok (.dup, 1) := by decide +kernel
theorem dL_law_12 : decode cL_law 12 = .ok (.invokespecial 18, 3) := by decide +kernel
theorem dL_law_15 : decode cL_law 15 = .ok (.astore_n 2, 1) := by decide +kernel
theorem dL_law_16 : decode cL_law 16 = .ok (.iconst 1, 1) := by decide +kernel
theorem dL_law_17 : decode cL_law 17 = .ok (.newarray .long, 2) := by decide +kernel
theorem dL_law_19 : decode cL_law 19 = .ok (.astore_n 3, 1) := by decide +kernel
theorem dL_law_20 : decode cL_law 20 = .ok (.iconst 0, 1) := by decide +kernel
theorem dL_law_21 : decode cL_law 21 = .ok (.istore 4, 2) := by decide +kernel
theorem dL_law_23 : decode cL_law 23 = .ok (.iload 4, 2) := by decide +kernel
theorem dL_law_25 : decode cL_law 25 = .ok (.aload_n 0, 1) := by decide +kernel
theorem dL_law_26 : decode cL_law 26 = .ok (.arraylength, 1) := by decide +kernel
theorem dL_law_27 : decode cL_law 27 = .ok (.bipush 6, 2) := by decide +kernel
theorem dL_law_29 : decode cL_law 29 = .ok (.isub, 1) := by decide +kernel
theorem dL_law_30 : decode cL_law 30 = .ok (.if_icmp .gt 1297, 3) := by decide +kernel
theorem dL_law_33 : decode cL_law 33 = .ok (.aload_n 0, 1) := by decide +kernel
theorem dL_law_34 : decode cL_law 34 = .ok (.iload 4, 2) := by decide +kernel
theorem dL_law_36 : decode cL_law 36 = .ok (.iaload, 1) := by decide +kernel
theorem dL_law_37 : decode cL_law 37 = .ok (.bipush 63, 2) := by decide +kernel
theorem dL_law_39 : decode cL_law 39 = .ok (.iand, 1) := by decide +kernel
theorem dL_law_40 : decode cL_law 40 = .ok (.tableswitch 1281 0 33 #[152, 225, 250, 275, 300, 340, 377, 414, 439, 476, 533, 558, 571, 608, 621, 674, 687, 712, 737, 786, 847, 884, 933, 970, 983, 1008, 1033, 1082, 1107, 1132, 1169, 1230, 1243, 1256], 152) := by decide +kernel
theorem dL_law_192 : decode cL_law 192 = .ok (.aload_n 1, 1) := by decide +kernel
theorem dL_law_193 : decode cL_law 193 = .ok (.aload_n 0, 1) := by decide +kernel
theorem dL_law_194 : decode cL_law 194 = .ok (.iload 4, 2) := by decide +kernel
theorem dL_law_196 : decode cL_law 196 = .ok (.iconst 1, 1) := by decide +kernel
theorem dL_law_197 : decode cL_law 197 = .ok (.iadd, 1) := by decide +kernel
theorem dL_law_198 : decode cL_law 198 = .ok (.iaload, 1) := by decide +kernel
theorem dL_law_199 : decode cL_law 199 = .ok (.aload_n 0, 1) := by decide +kernel
theorem dL_law_200 : decode cL_law 200 = .ok (.iload 4, 2) := by decide +kernel
theorem dL_law_202 : decode cL_law 202 = .ok (.iconst 2, 1) := by decide +kernel
theorem dL_law_203 : decode cL_law 203 = .ok (.iadd, 1) := by decide +kernel
theorem dL_law_204 : decode cL_law 204 = .ok (.iaload, 1) := by decide +kernel
theorem dL_law_205 : decode cL_law 205 = .ok (.aload_n 0, 1) := by decide +kernel
theorem dL_law_206 : decode cL_law 206 = .ok (.iload 4, 2) := by decide +kernel
theorem dL_law_208 : decode cL_law 208 = .ok (.iconst 3, 1) := by decide +kernel
theorem dL_law_209 : decode cL_law 209 = .ok (.iadd, 1) := by decide +kernel
theorem dL_law_210 : decode cL_law 210 = .ok (.iaload, 1) := by decide +kernel
theorem dL_law_211 : decode cL_law 211 = .ok (.aload_n 0, 1) := by decide +kernel
theorem dL_law_212 : decode cL_law 212 = .ok (.iload 4, 2) := by decide +kernel
theorem dL_law_214 : decode cL_law 214 = .ok (.iconst 4, 1) := by decide +kernel
theorem dL_law_215 : decode cL_law 215 = .ok (.iadd, 1) := by decide +kernel
theorem dL_law_216 : decode cL_law 216 = .ok (.iaload, 1) := by decide +kernel
theorem dL_law_217 : decode cL_law 217 = .ok (.aload_n 0, 1) := by decide +kernel
theorem dL_law_218 : decode cL_law 218 = .ok (.iload 4, 2) := by decide +kernel
theorem dL_law_220 : decode cL_law 220 = .ok (.iconst 5, 1) := by decide +kernel
theorem dL_law_221 : decode cL_law 221 = .ok (.iadd, 1) := by decide +kernel
theorem dL_law_222 : decode cL_law 222 = .ok (.iaload, 1) := by decide +kernel
theorem dL_law_223 : decode cL_law 223 = .ok (.invokevirtual 19, 3) := by decide +kernel
theorem dL_law_226 : decode cL_law 226 = .ok (.pop, 1) := by decide +kernel
theorem dL_law_227 : decode cL_law 227 = .ok (.aload_n 2, 1) := by decide +kernel
theorem dL_law_228 : decode cL_law 228 = .ok (.aload_n 0, 1) := by decide +kernel
theorem dL_law_229 : decode cL_law 229 = .ok (.iload 4, 2) := by decide +kernel
theorem dL_law_231 : decode cL_law 231 = .ok (.iconst 1, 1) := by decide +kernel
theorem dL_law_232 : decode cL_law 232 = .ok (.iadd, 1) := by decide +kernel
theorem dL_law_233 : decode cL_law 233 = .ok (.iaload, 1) := by decide +kernel
theorem dL_law_234 : decode cL_law 234 = .ok (.aload_n 0, 1) := by decide +kernel
theorem dL_law_235 : decode cL_law 235 = .ok (.iload 4, 2) := by decide +kernel
theorem dL_law_237 : decode cL_law 237 = .ok (.iconst 2, 1) := by decide +kernel
theorem dL_law_238 : decode cL_law 238 = .ok (.iadd, 1) := by decide +kernel
theorem dL_law_239 : decode cL_law 239 = .ok (.iaload, 1) := by decide +kernel
theorem dL_law_240 : decode cL_law 240 = .ok (.aload_n 0, 1) := by decide +kernel
theorem dL_law_241 : decode cL_law 241 = .ok (.iload 4, 2) := by decide +kernel
theorem dL_law_243 : decode cL_law 243 = .ok (.iconst 3, 1) := by decide +kernel
theorem dL_law_244 : decode cL_law 244 = .ok (.iadd, 1) := by decide +kernel
theorem dL_law_245 : decode cL_law 245 = .ok (.iaload, 1) := by decide +kernel
theorem dL_law_246 : decode cL_law 246 = .ok (.aload_n 0, 1) := by decide +kernel
theorem dL_law_247 : decode cL_law 247 = .ok (.iload 4, 2) := by decide +kernel
theorem dL_law_249 : decode cL_law 249 = .ok (.iconst 4, 1) := by decide +kernel
theorem dL_law_250 : decode cL_law 250 = .ok (.iadd, 1) := by decide +kernel
theorem dL_law_251 : decode cL_law 251 = .ok (.iaload, 1) := by decide +kernel
theorem dL_law_252 : decode cL_law 252 = .ok (.aload_n 0, 1) := by decide +kernel
theorem dL_law_253 : decode cL_law 253 = .ok (.iload 4, 2) := by decide +kernel
theorem dL_law_255 : decode cL_law 255 = .ok (.iconst 5, 1) := by decide +kernel
theorem dL_law_256 : decode cL_law 256 = .ok (.iadd, 1) := by decide +kernel
theorem dL_law_257 : decode cL_law 257 = .ok (.iaload, 1) := by decide +kernel
theorem dL_law_258 : decode cL_law 258 = .ok (.invokevirtual 23, 3) := by decide +kernel
theorem dL_law_261 : decode cL_law 261 = .ok (.pop, 1) := by decide +kernel
theorem dL_law_262 : decode cL_law 262 = .ok (.goto 1059, 3) := by decide +kernel
theorem dL_law_265 : decode cL_law 265 = .ok (.aload_n 1, 1) := by decide +kernel
theorem dL_law_266 : decode cL_law 266 = .ok (.aload_n 0, 1) := by decide +kernel
theorem dL_law_267 : decode cL_law 267 = .ok (.iload 4, 2) := by decide +kernel
theorem dL_law_269 : decode cL_law 269 = .ok (.iconst 1, 1) := by decide +kernel
theorem dL_law_270 : decode cL_law 270 = .ok (.iadd, 1) := by decide +kernel
theorem dL_law_271 : decode cL_law 271 = .ok (.iaload, 1) := by decide +kernel
theorem dL_law_272 : decode cL_law 272 = .ok (.invokevirtual 24, 3) := by decide +kernel
theorem dL_law_275 : decode cL_law 275 = .ok (.pop, 1) := by decide +kernel
theorem dL_law_276 : decode cL_law 276 = .ok (.aload_n 2, 1) := by decide +kernel
theorem dL_law_277 : decode cL_law 277 = .ok (.aload_n 0, 1) := by decide +kernel
theorem dL_law_278 : decode cL_law 278 = .ok (.iload 4, 2) := by decide +kernel
theorem dL_law_280 : decode cL_law 280 = .ok (.iconst 1, 1) := by decide +kernel
theorem dL_law_281 : decode cL_law 281 = .ok (.iadd, 1) := by decide +kernel
theorem dL_law_282 : decode cL_law 282 = .ok (.iaload, 1) := by decide +kernel
theorem dL_law_283 : decode cL_law 283 = .ok (.invokevirtual 28, 3) := by decide +kernel
theorem dL_law_286 : decode cL_law 286 = .ok (.pop, 1) := by decide +kernel
theorem dL_law_287 : decode cL_law 287 = .ok (.goto 1034, 3) := by decide +kernel
theorem dL_law_290 : decode cL_law 290 = .ok (.aload_n 1, 1) := by decide +kernel
theorem dL_law_291 : decode cL_law 291 = .ok (.aload_n 0, 1) := by decide +kernel
theorem dL_law_292 : decode cL_law 292 = .ok (.iload 4, 2) := by decide +kernel
theorem dL_law_294 : decode cL_law 294 = .ok (.iconst 1, 1) := by decide +kernel
theorem dL_law_295 : decode cL_law 295 = .ok (.iadd, 1) := by decide +kernel
theorem dL_law_296 : decode cL_law 296 = .ok (.iaload, 1) := by decide +kernel
theorem dL_law_297 : decode cL_law 297 = .ok (.invokevirtual 29, 3) := by decide +kernel
theorem dL_law_300 : decode cL_law 300 = .ok (.pop, 1) := by decide +kernel
theorem dL_law_301 : decode cL_law 301 = .ok (.aload_n 2, 1) := by decide +kernel
theorem dL_law_302 : decode cL_law 302 = .ok (.aload_n 0, 1) := by decide +kernel
theorem dL_law_303 : decode cL_law 303 = .ok (.iload 4, 2) := by decide +kernel
theorem dL_law_305 : decode cL_law 305 = .ok (.iconst 1, 1) := by decide +kernel
theorem dL_law_306 : decode cL_law 306 = .ok (.iadd, 1) := by decide +kernel
theorem dL_law_307 : decode cL_law 307 = .ok (.iaload, 1) := by decide +kernel
theorem dL_law_308 : decode cL_law 308 = .ok (.invokevirtual 33, 3) := by decide +kernel
theorem dL_law_311 : decode cL_law 311 = .ok (.pop, 1) := by decide +kernel
theorem dL_law_312 : decode cL_law 312 = .ok (.goto 1009, 3) := by decide +kernel
theorem dL_law_315 : decode cL_law 315 = .ok (.aload_n 1, 1) := by decide +kernel
theorem dL_law_316 : decode cL_law 316 = .ok (.aload_n 0, 1) := by decide +kernel
theorem dL_law_317 : decode cL_law 317 = .ok (.iload 4, 2) := by decide +kernel
theorem dL_law_319 : decode cL_law 319 = .ok (.iconst 1, 1) := by decide +kernel
theorem dL_law_320 : decode cL_law 320 = .ok (.iadd, 1) := by decide +kernel
theorem dL_law_321 : decode cL_law 321 = .ok (.iaload, 1) := by decide +kernel
theorem dL_law_322 : decode cL_law 322 = .ok (.invokevirtual 34, 3) := by decide +kernel
theorem dL_law_325 : decode cL_law 325 = .ok (.pop, 1) := by decide +kernel
theorem dL_law_326 : decode cL_law 326 = .ok (.aload_n 2, 1) := by decide +kernel
theorem dL_law_327 : decode cL_law 327 = .ok (.aload_n 0, 1) := by decide +kernel
theorem dL_law_328 : decode cL_law 328 = .ok (.iload 4, 2) := by decide +kernel
theorem dL_law_330 : decode cL_law 330 = .ok (.iconst 1, 1) := by decide +kernel
theorem dL_law_331 : decode cL_law 331 = .ok (.iadd, 1) := by decide +kernel
theorem dL_law_332 : decode cL_law 332 = .ok (.iaload, 1) := by decide +kernel
theorem dL_law_333 : decode cL_law 333 = .ok (.invokevirtual 37, 3) := by decide +kernel
theorem dL_law_336 : decode cL_law 336 = .ok (.pop, 1) := by decide +kernel
theorem dL_law_337 : decode cL_law 337 = .ok (.goto 984, 3) := by decide +kernel
theorem dL_law_340 : decode cL_law 340 = .ok (.aload_n 1, 1) := by decide +kernel
theorem dL_law_341 : decode cL_law 341 = .ok (.aload_n 0, 1) := by decide +kernel
theorem dL_law_342 : decode cL_law 342 = .ok (.iload 4, 2) := by decide +kernel
theorem dL_law_344 : decode cL_law 344 = .ok (.iconst 1, 1) := by decide +kernel
theorem dL_law_345 : decode cL_law 345 = .ok (.iadd, 1) := by decide +kernel
theorem dL_law_346 : decode cL_law 346 = .ok (.iaload, 1) := by decide +kernel
theorem dL_law_347 : decode cL_law 347 = .ok (.aload_n 0, 1) := by decide +kernel
theorem dL_law_348 : decode cL_law 348 = .ok (.iload 4, 2) := by decide +kernel
theorem dL_law_350 : decode cL_law 350 = .ok (.iconst 2, 1) := by decide +kernel
theorem dL_law_351 : decode cL_law 351 = .ok (.iadd, 1) := by decide +kernel
theorem dL_law_352 : decode cL_law 352 = .ok (.iaload, 1) := by decide +kernel
theorem dL_law_353 : decode cL_law 353 = .ok (.aload_n 3, 1) := by decide +kernel
theorem dL_law_354 : decode cL_law 354 = .ok (.invokestatic 38, 3) := by decide +kernel
theorem dL_law_357 : decode cL_law 357 = .ok (.istore 5, 2) := by decide +kernel
theorem dL_law_359 : decode cL_law 359 = .ok (.aload_n 2, 1) := by decide +kernel
theorem dL_law_360 : decode cL_law 360 = .ok (.aload_n 0, 1) := by decide +kernel
theorem dL_law_361 : decode cL_law 361 = .ok (.iload 4, 2) := by decide +kernel
theorem dL_law_363 : decode cL_law 363 = .ok (.iconst 1, 1) := by decide +kernel
theorem dL_law_364 : decode cL_law 364 = .ok (.iadd, 1) := by decide +kernel
theorem dL_law_365 : decode cL_law 365 = .ok (.iaload, 1) := by decide +kernel
theorem dL_law_366 : decode cL_law 366 = .ok (.aload_n 0, 1) := by decide +kernel
theorem dL_law_367 : decode cL_law 367 = .ok (.iload 4, 2) := by decide +kernel
theorem dL_law_369 : decode cL_law 369 = .ok (.iconst 2, 1) := by decide +kernel
theorem dL_law_370 : decode cL_law 370 = .ok (.iadd, 1) := by decide +kernel
theorem dL_law_371 : decode cL_law 371 = .ok (.iaload, 1) := by decide +kernel
theorem dL_law_372 : decode cL_law 372 = .ok (.invokevirtual 43, 3) := by decide +kernel
theorem dL_law_375 : decode cL_law 375 = .ok (.istore 6, 2) := by decide +kernel
theorem dL_law_377 : decode cL_law 377 = .ok (.goto 944, 3) := by decide +kernel
theorem dL_law_380 : decode cL_law 380 = .ok (.aload_n 1, 1) := by decide +kernel
theorem dL_law_381 : decode cL_law 381 = .ok (.aload_n 0, 1) := by decide +kernel
theorem dL_law_382 : decode cL_law 382 = .ok (.iload 4, 2) := by decide +kernel
theorem dL_law_384 : decode cL_law 384 = .ok (.iconst 1, 1) := by decide +kernel
theorem dL_law_385 : decode cL_law 385 = .ok (.iadd, 1) := by decide +kernel
theorem dL_law_386 : decode cL_law 386 = .ok (.iaload, 1) := by decide +kernel
theorem dL_law_387 : decode cL_law 387 = .ok (.aload_n 0, 1) := by decide +kernel
theorem dL_law_388 : decode cL_law 388 = .ok (.iload 4, 2) := by decide +kernel
theorem dL_law_390 : decode cL_law 390 = .ok (.iconst 2, 1) := by decide +kernel
theorem dL_law_391 : decode cL_law 391 = .ok (.iadd, 1) := by decide +kernel
theorem dL_law_392 : decode cL_law 392 = .ok (.iaload, 1) := by decide +kernel
theorem dL_law_393 : decode cL_law 393 = .ok (.invokevirtual 44, 3) := by decide +kernel
theorem dL_law_396 : decode cL_law 396 = .ok (.pop, 1) := by decide +kernel
theorem dL_law_397 : decode cL_law 397 = .ok (.aload_n 2, 1) := by decide +kernel
theorem dL_law_398 : decode cL_law 398 = .ok (.aload_n 0, 1) := by decide +kernel
theorem dL_law_399 : decode cL_law 399 = .ok (.iload 4, 2) := by decide +kernel
theorem dL_law_401 : decode cL_law 401 = .ok (.iconst 1, 1) := by decide +kernel
theorem dL_law_402 : decode cL_law 402 = .ok (.iadd, 1) := by decide +kernel
theorem dL_law_403 : decode cL_law 403 = .ok (.iaload, 1) := by decide +kernel
theorem dL_law_404 : decode cL_law 404 = .ok (.aload_n 0, 1) := by decide +kernel
theorem dL_law_405 : decode cL_law 405 = .ok (.iload 4, 2) := by decide +kernel
theorem dL_law_407 : decode cL_law 407 = .ok (.iconst 2, 1) := by decide +kernel
theorem dL_law_408 : decode cL_law 408 = .ok (.iadd, 1) := by decide +kernel
theorem dL_law_409 : decode cL_law 409 = .ok (.iaload, 1) := by decide +kernel
theorem dL_law_410 : decode cL_law 410 = .ok (.invokevirtual 47, 3) := by decide +kernel
theorem dL_law_413 : decode cL_law 413 = .ok (.pop, 1) := by decide +kernel
theorem dL_law_414 : decode cL_law 414 = .ok (.goto 907, 3) := by decide +kernel
theorem dL_law_417 : decode cL_law 417 = .ok (.aload_n 1, 1) := by decide +kernel
theorem dL_law_418 : decode cL_law 418 = .ok (.aload_n 0, 1) := by decide +kernel
theorem dL_law_419 : decode cL_law 419 = .ok (.iload 4, 2) := by decide +kernel
theorem dL_law_421 : decode cL_law 421 = .ok (.iconst 1, 1) := by decide +kernel
theorem dL_law_422 : decode cL_law 422 = .ok (.iadd, 1) := by decide +kernel
theorem dL_law_423 : decode cL_law 423 = .ok (.iaload, 1) := by decide +kernel
theorem dL_law_424 : decode cL_law 424 = .ok (.aload_n 0, 1) := by decide +kernel
theorem dL_law_425 : decode cL_law 425 = .ok (.iload 4, 2) := by decide +kernel
theorem dL_law_427 : decode cL_law 427 = .ok (.iconst 2, 1) := by decide +kernel
theorem dL_law_428 : decode cL_law 428 = .ok (.iadd, 1) := by decide +kernel
theorem dL_law_429 : decode cL_law 429 = .ok (.iaload, 1) := by decide +kernel
theorem dL_law_430 : decode cL_law 430 = .ok (.invokevirtual 48, 3) := by decide +kernel
theorem dL_law_433 : decode cL_law 433 = .ok (.pop, 1) := by decide +kernel
theorem dL_law_434 : decode cL_law 434 = .ok (.aload_n 2, 1) := by decide +kernel
theorem dL_law_435 : decode cL_law 435 = .ok (.aload_n 0, 1) := by decide +kernel
theorem dL_law_436 : decode cL_law 436 = .ok (.iload 4, 2) := by decide +kernel
theorem dL_law_438 : decode cL_law 438 = .ok (.iconst 1, 1) := by decide +kernel
theorem dL_law_439 : decode cL_law 439 = .ok (.iadd, 1) := by decide +kernel
theorem dL_law_440 : decode cL_law 440 = .ok (.iaload, 1) := by decide +kernel
theorem dL_law_441 : decode cL_law 441 = .ok (.aload_n 0, 1) := by decide +kernel
theorem dL_law_442 : decode cL_law 442 = .ok (.iload 4, 2) := by decide +kernel
theorem dL_law_444 : decode cL_law 444 = .ok (.iconst 2, 1) := by decide +kernel
theorem dL_law_445 : decode cL_law 445 = .ok (.iadd, 1) := by decide +kernel
theorem dL_law_446 : decode cL_law 446 = .ok (.iaload, 1) := by decide +kernel
theorem dL_law_447 : decode cL_law 447 = .ok (.invokevirtual 51, 3) := by decide +kernel
theorem dL_law_450 : decode cL_law 450 = .ok (.pop, 1) := by decide +kernel
theorem dL_law_451 : decode cL_law 451 = .ok (.goto 870, 3) := by decide +kernel
theorem dL_law_454 : decode cL_law 454 = .ok (.aload_n 1, 1) := by decide +kernel
theorem dL_law_455 : decode cL_law 455 = .ok (.aload_n 0, 1) := by decide +kernel
theorem dL_law_456 : decode cL_law 456 = .ok (.iload 4, 2) := by decide +kernel
theorem dL_law_458 : decode cL_law 458 = .ok (.iconst 1, 1) := by decide +kernel
theorem dL_law_459 : decode cL_law 459 = .ok (.iadd, 1) := by decide +kernel
theorem dL_law_460 : decode cL_law 460 = .ok (.iaload, 1) := by decide +kernel
theorem dL_law_461 : decode cL_law 461 = .ok (.invokevirtual 52, 3) := by decide +kernel
theorem dL_law_464 : decode cL_law 464 = .ok (.pop, 1) := by decide +kernel
theorem dL_law_465 : decode cL_law 465 = .ok (.aload_n 2, 1) := by decide +kernel
theorem dL_law_466 : decode cL_law 466 = .ok (.aload_n 0, 1) := by decide +kernel
theorem dL_law_467 : decode cL_law 467 = .ok (.iload 4, 2) := by decide +kernel
theorem dL_law_469 : decode cL_law 469 = .ok (.iconst 1, 1) := by decide +kernel
theorem dL_law_470 : decode cL_law 470 = .ok (.iadd, 1) := by decide +kernel
theorem dL_law_471 : decode cL_law 471 = .ok (.iaload, 1) := by decide +kernel
theorem dL_law_472 : decode cL_law 472 = .ok (.invokevirtual 55, 3) := by decide +kernel
theorem dL_law_475 : decode cL_law 475 = .ok (.pop, 1) := by decide +kernel
theorem dL_law_476 : decode cL_law 476 = .ok (.goto 845, 3) := by decide +kernel
theorem dL_law_479 : decode cL_law 479 = .ok (.aload_n 1, 1) := by decide +kernel
theorem dL_law_480 : decode cL_law 480 = .ok (.aload_n 0, 1) := by decide +kernel
theorem dL_law_481 : decode cL_law 481 = .ok (.iload 4, 2) := by decide +kernel
theorem dL_law_483 : decode cL_law 483 = .ok (.iconst 1, 1) := by decide +kernel
theorem dL_law_484 : decode cL_law 484 = .ok (.iadd, 1) := by decide +kernel
theorem dL_law_485 : decode cL_law 485 = .ok (.iaload, 1) := by decide +kernel
theorem dL_law_486 : decode cL_law 486 = .ok (.aload_n 0, 1) := by decide +kernel
theorem dL_law_487 : decode cL_law 487 = .ok (.iload 4, 2) := by decide +kernel
theorem dL_law_489 : decode cL_law 489 = .ok (.iconst 2, 1) := by decide +kernel
theorem dL_law_490 : decode cL_law 490 = .ok (.iadd, 1) := by decide +kernel
theorem dL_law_491 : decode cL_law 491 = .ok (.iaload, 1) := by decide +kernel
theorem dL_law_492 : decode cL_law 492 = .ok (.invokevirtual 56, 3) := by decide +kernel
theorem dL_law_495 : decode cL_law 495 = .ok (.pop, 1) := by decide +kernel
theorem dL_law_496 : decode cL_law 496 = .ok (.aload_n 2, 1) := by decide +kernel
theorem dL_law_497 : decode cL_law 497 = .ok (.aload_n 0, 1) := by decide +kernel
theorem dL_law_498 : decode cL_law 498 = .ok (.iload 4, 2) := by decide +kernel
theorem dL_law_500 : decode cL_law 500 = .ok (.iconst 1, 1) := by decide +kernel
theorem dL_law_501 : decode cL_law 501 = .ok (.iadd, 1) := by decide +kernel
theorem dL_law_502 : decode cL_law 502 = .ok (.iaload, 1) := by decide +kernel
theorem dL_law_503 : decode cL_law 503 = .ok (.aload_n 0, 1) := by decide +kernel
theorem dL_law_504 : decode cL_law 504 = .ok (.iload 4, 2) := by decide +kernel
theorem dL_law_506 : decode cL_law 506 = .ok (.iconst 2, 1) := by decide +kernel
theorem dL_law_507 : decode cL_law 507 = .ok (.iadd, 1) := by decide +kernel
theorem dL_law_508 : decode cL_law 508 = .ok (.iaload, 1) := by decide +kernel
theorem dL_law_509 : decode cL_law 509 = .ok (.invokevirtual 60, 3) := by decide +kernel
theorem dL_law_512 : decode cL_law 512 = .ok (.pop, 1) := by decide +kernel
theorem dL_law_513 : decode cL_law 513 = .ok (.goto 808, 3) := by decide +kernel
theorem dL_law_516 : decode cL_law 516 = .ok (.aload_n 1, 1) := by decide +kernel
theorem dL_law_517 : decode cL_law 517 = .ok (.aload_n 0, 1) := by decide +kernel
theorem dL_law_518 : decode cL_law 518 = .ok (.iload 4, 2) := by decide +kernel
theorem dL_law_520 : decode cL_law 520 = .ok (.iconst 1, 1) := by decide +kernel
theorem dL_law_521 : decode cL_law 521 = .ok (.iadd, 1) := by decide +kernel
theorem dL_law_522 : decode cL_law 522 = .ok (.iaload, 1) := by decide +kernel
theorem dL_law_523 : decode cL_law 523 = .ok (.i2l, 1) := by decide +kernel
theorem dL_law_524 : decode cL_law 524 = .ok (.bipush 32, 2) := by decide +kernel
theorem dL_law_526 : decode cL_law 526 = .ok (.lshl, 1) := by decide +kernel
theorem dL_law_527 : decode cL_law 527 = .ok (.aload_n 0, 1) := by decide +kernel
theorem dL_law_528 : decode cL_law 528 = .ok (.iload 4, 2) := by decide +kernel
theorem dL_law_530 : decode cL_law 530 = .ok (.iconst 2, 1) := by decide +kernel
theorem dL_law_531 : decode cL_law 531 = .ok (.iadd, 1) := by decide +kernel
theorem dL_law_532 : decode cL_law 532 = .ok (.iaload, 1) := by decide +kernel
theorem dL_law_533 : decode cL_law 533 = .ok (.i2l, 1) := by decide +kernel
theorem dL_law_534 : decode cL_law 534 = .ok (.ldc2_w 61, 3) := by decide +kernel
theorem dL_law_537 : decode cL_law 537 = .ok (.land, 1) := by decide +kernel
theorem dL_law_538 : decode cL_law 538 = .ok (.lor, 1) := by decide +kernel
theorem dL_law_539 : decode cL_law 539 = .ok (.invokevirtual 63, 3) := by decide +kernel
theorem dL_law_542 : decode cL_law 542 = .ok (.pop, 1) := by decide +kernel
theorem dL_law_543 : decode cL_law 543 = .ok (.aload_n 2, 1) := by decide +kernel
theorem dL_law_544 : decode cL_law 544 = .ok (.aload_n 0, 1) := by decide +kernel
theorem dL_law_545 : decode cL_law 545 = .ok (.iload 4, 2) := by decide +kernel
theorem dL_law_547 : decode cL_law 547 = .ok (.iconst 1, 1) := by decide +kernel
theorem dL_law_548 : decode cL_law 548 = .ok (.iadd, 1) := by decide +kernel
theorem dL_law_549 : decode cL_law 549 = .ok (.iaload, 1) := by decide +kernel
theorem dL_law_550 : decode cL_law 550 = .ok (.i2l, 1) := by decide +kernel
theorem dL_law_551 : decode cL_law 551 = .ok (.bipush 32, 2) := by decide +kernel
theorem dL_law_553 : decode cL_law 553 = .ok (.lshl, 1) := by decide +kernel
theorem dL_law_554 : decode cL_law 554 = .ok (.aload_n 0, 1) := by decide +kernel
theorem dL_law_555 : decode cL_law 555 = .ok (.iload 4, 2) := by decide +kernel
theorem dL_law_557 : decode cL_law 557 = .ok (.iconst 2, 1) := by decide +kernel
theorem dL_law_558 : decode cL_law 558 = .ok (.iadd, 1) := by decide +kernel
theorem dL_law_559 : decode cL_law 559 = .ok (.iaload, 1) := by decide +kernel
theorem dL_law_560 : decode cL_law 560 = .ok (.i2l, 1) := by decide +kernel
theorem dL_law_561 : decode cL_law 561 = .ok (.ldc2_w 61, 3) := by decide +kernel
theorem dL_law_564 : decode cL_law 564 = .ok (.land, 1) := by decide +kernel
theorem dL_law_565 : decode cL_law 565 = .ok (.lor, 1) := by decide +kernel
theorem dL_law_566 : decode cL_law 566 = .ok (.invokevirtual 67, 3) := by decide +kernel
theorem dL_law_569 : decode cL_law 569 = .ok (.pop, 1) := by decide +kernel
theorem dL_law_570 : decode cL_law 570 = .ok (.goto 751, 3) := by decide +kernel
theorem dL_law_573 : decode cL_law 573 = .ok (.aload_n 1, 1) := by decide +kernel
theorem dL_law_574 : decode cL_law 574 = .ok (.aload_n 0, 1) := by decide +kernel
theorem dL_law_575 : decode cL_law 575 = .ok (.iload 4, 2) := by decide +kernel
theorem dL_law_577 : decode cL_law 577 = .ok (.iconst 1, 1) := by decide +kernel
theorem dL_law_578 : decode cL_law 578 = .ok (.iadd, 1) := by decide +kernel
theorem dL_law_579 : decode cL_law 579 = .ok (.iaload, 1) := by decide +kernel
theorem dL_law_580 : decode cL_law 580 = .ok (.invokevirtual 68, 3) := by decide +kernel
theorem dL_law_583 : decode cL_law 583 = .ok (.pop, 1) := by decide +kernel
theorem dL_law_584 : decode cL_law 584 = .ok (.aload_n 2, 1) := by decide +kernel
theorem dL_law_585 : decode cL_law 585 = .ok (.aload_n 0, 1) := by decide +kernel
theorem dL_law_586 : decode cL_law 586 = .ok (.iload 4, 2) := by decide +kernel
theorem dL_law_588 : decode cL_law 588 = .ok (.iconst 1, 1) := by decide +kernel
theorem dL_law_589 : decode cL_law 589 = .ok (.iadd, 1) := by decide +kernel
theorem dL_law_590 : decode cL_law 590 = .ok (.iaload, 1) := by decide +kernel
theorem dL_law_591 : decode cL_law 591 = .ok (.invokevirtual 71, 3) := by decide +kernel
theorem dL_law_594 : decode cL_law 594 = .ok (.pop, 1) := by decide +kernel
theorem dL_law_595 : decode cL_law 595 = .ok (.goto 726, 3) := by decide +kernel
theorem dL_law_598 : decode cL_law 598 = .ok (.aload_n 1, 1) := by decide +kernel
theorem dL_law_599 : decode cL_law 599 = .ok (.invokevirtual 72, 3) := by decide +kernel
theorem dL_law_602 : decode cL_law 602 = .ok (.pop, 1) := by decide +kernel
theorem dL_law_603 : decode cL_law 603 = .ok (.aload_n 2, 1) := by decide +kernel
theorem dL_law_604 : decode cL_law 604 = .ok (.invokevirtual 76, 3) := by decide +kernel
theorem dL_law_607 : decode cL_law 607 = .ok (.pop, 1) := by decide +kernel
theorem dL_law_608 : decode cL_law 608 = .ok (.goto 713, 3) := by decide +kernel
theorem dL_law_611 : decode cL_law 611 = .ok (.aload_n 1, 1) := by decide +kernel
theorem dL_law_612 : decode cL_law 612 = .ok (.aload_n 0, 1) := by decide +kernel
theorem dL_law_613 : decode cL_law 613 = .ok (.iload 4, 2) := by decide +kernel
theorem dL_law_615 : decode cL_law 615 = .ok (.iconst 1, 1) := by decide +kernel
theorem dL_law_616 : decode cL_law 616 = .ok (.iadd, 1) := by decide +kernel
theorem dL_law_617 : decode cL_law 617 = .ok (.iaload, 1) := by decide +kernel
theorem dL_law_618 : decode cL_law 618 = .ok (.aload_n 0, 1) := by decide +kernel
theorem dL_law_619 : decode cL_law 619 = .ok (.iload 4, 2) := by decide +kernel
theorem dL_law_621 : decode cL_law 621 = .ok (.iconst 2, 1) := by decide +kernel
theorem dL_law_622 : decode cL_law 622 = .ok (.iadd, 1) := by decide +kernel
theorem dL_law_623 : decode cL_law 623 = .ok (.iaload, 1) := by decide +kernel
theorem dL_law_624 : decode cL_law 624 = .ok (.invokevirtual 77, 3) := by decide +kernel
theorem dL_law_627 : decode cL_law 627 = .ok (.pop, 1) := by decide +kernel
theorem dL_law_628 : decode cL_law 628 = .ok (.aload_n 2, 1) := by decide +kernel
theorem dL_law_629 : decode cL_law 629 = .ok (.aload_n 0, 1) := by decide +kernel
theorem dL_law_630 : decode cL_law 630 = .ok (.iload 4, 2) := by decide +kernel
theorem dL_law_632 : decode cL_law 632 = .ok (.iconst 1, 1) := by decide +kernel
theorem dL_law_633 : decode cL_law 633 = .ok (.iadd, 1) := by decide +kernel
theorem dL_law_634 : decode cL_law 634 = .ok (.iaload, 1) := by decide +kernel
theorem dL_law_635 : decode cL_law 635 = .ok (.aload_n 0, 1) := by decide +kernel
theorem dL_law_636 : decode cL_law 636 = .ok (.iload 4, 2) := by decide +kernel
theorem dL_law_638 : decode cL_law 638 = .ok (.iconst 2, 1) := by decide +kernel
theorem dL_law_639 : decode cL_law 639 = .ok (.iadd, 1) := by decide +kernel
theorem dL_law_640 : decode cL_law 640 = .ok (.iaload, 1) := by decide +kernel
theorem dL_law_641 : decode cL_law 641 = .ok (.invokevirtual 80, 3) := by decide +kernel
theorem dL_law_644 : decode cL_law 644 = .ok (.pop, 1) := by decide +kernel
theorem dL_law_645 : decode cL_law 645 = .ok (.goto 676, 3) := by decide +kernel
theorem dL_law_648 : decode cL_law 648 = .ok (.aload_n 1, 1) := by decide +kernel
theorem dL_law_649 : decode cL_law 649 = .ok (.invokevirtual 81, 3) := by decide +kernel
theorem dL_law_652 : decode cL_law 652 = .ok (.pop, 1) := by decide +kernel
theorem dL_law_653 : decode cL_law 653 = .ok (.aload_n 2, 1) := by decide +kernel
theorem dL_law_654 : decode cL_law 654 = .ok (.invokevirtual 84, 3) := by decide +kernel
theorem dL_law_657 : decode cL_law 657 = .ok (.pop, 1) := by decide +kernel
theorem dL_law_658 : decode cL_law 658 = .ok (.goto 663, 3) := by decide +kernel
theorem dL_law_661 : decode cL_law 661 = .ok (.aload_n 1, 1) := by decide +kernel
theorem dL_law_662 : decode cL_law 662 = .ok (.aload_n 0, 1) := by decide +kernel
theorem dL_law_663 : decode cL_law 663 = .ok (.iload 4, 2) := by decide +kernel
theorem dL_law_665 : decode cL_law 665 = .ok (.iconst 1, 1) := by decide +kernel
theorem dL_law_666 : decode cL_law 666 = .ok (.iadd, 1) := by decide +kernel
theorem dL_law_667 : decode cL_law 667 = .ok (.iaload, 1) := by decide +kernel
theorem dL_law_668 : decode cL_law 668 = .ok (.aload_n 0, 1) := by decide +kernel
theorem dL_law_669 : decode cL_law 669 = .ok (.iload 4, 2) := by decide +kernel
theorem dL_law_671 : decode cL_law 671 = .ok (.iconst 2, 1) := by decide +kernel
theorem dL_law_672 : decode cL_law 672 = .ok (.iadd, 1) := by decide +kernel
theorem dL_law_673 : decode cL_law 673 = .ok (.iaload, 1) := by decide +kernel
theorem dL_law_674 : decode cL_law 674 = .ok (.ifCond .eq 7, 3) := by decide +kernel
theorem dL_law_677 : decode cL_law 677 = .ok (.iconst 1, 1) := by decide +kernel
theorem dL_law_678 : decode cL_law 678 = .ok (.goto 4, 3) := by decide +kernel
theorem dL_law_681 : decode cL_law 681 = .ok (.iconst 0, 1) := by decide +kernel
theorem dL_law_682 : decode cL_law 682 = .ok (.invokevirtual 85, 3) := by decide +kernel
theorem dL_law_685 : decode cL_law 685 = .ok (.pop, 1) := by decide +kernel
theorem dL_law_686 : decode cL_law 686 = .ok (.aload_n 2, 1) := by decide +kernel
theorem dL_law_687 : decode cL_law 687 = .ok (.aload_n 0, 1) := by decide +kernel
theorem dL_law_688 : decode cL_law 688 = .ok (.iload 4, 2) := by decide +kernel
theorem dL_law_690 : decode cL_law 690 = .ok (.iconst 1, 1) := by decide +kernel
theorem dL_law_691 : decode cL_law 691 = .ok (.iadd, 1) := by decide +kernel
theorem dL_law_692 : decode cL_law 692 = .ok (.iaload, 1) := by decide +kernel
theorem dL_law_693 : decode cL_law 693 = .ok (.aload_n 0, 1) := by decide +kernel
theorem dL_law_694 : decode cL_law 694 = .ok (.iload 4, 2) := by decide +kernel
theorem dL_law_696 : decode cL_law 696 = .ok (.iconst 2, 1) := by decide +kernel
theorem dL_law_697 : decode cL_law 697 = .ok (.iadd, 1) := by decide +kernel
theorem dL_law_698 : decode cL_law 698 = .ok (.iaload, 1) := by decide +kernel
theorem dL_law_699 : decode cL_law 699 = .ok (.ifCond .eq 7, 3) := by decide +kernel
theorem dL_law_702 : decode cL_law 702 = .ok (.iconst 1, 1) := by decide +kernel
theorem dL_law_703 : decode cL_law 703 = .ok (.goto 4, 3) := by decide +kernel
theorem dL_law_706 : decode cL_law 706 = .ok (.iconst 0, 1) := by decide +kernel
theorem dL_law_707 : decode cL_law 707 = .ok (.invokevirtual 89, 3) := by decide +kernel
theorem dL_law_710 : decode cL_law 710 = .ok (.pop, 1) := by decide +kernel
theorem dL_law_711 : decode cL_law 711 = .ok (.goto 610, 3) := by decide +kernel
theorem dL_law_714 : decode cL_law 714 = .ok (.aload_n 1, 1) := by decide +kernel
theorem dL_law_715 : decode cL_law 715 = .ok (.invokevirtual 90, 3) := by decide +kernel
theorem dL_law_718 : decode cL_law 718 = .ok (.pop, 1) := by decide +kernel
theorem dL_law_719 : decode cL_law 719 = .ok (.aload_n 2, 1) := by decide +kernel
theorem dL_law_720 : decode cL_law 720 = .ok (.invokevirtual 93, 3) := by decide +kernel
theorem dL_law_723 : decode cL_law 723 = .ok (.pop, 1) := by decide +kernel
theorem dL_law_724 : decode cL_law 724 = .ok (.goto 597, 3) := by decide +kernel
theorem dL_law_727 : decode cL_law 727 = .ok (.aload_n 1, 1) := by decide +kernel
theorem dL_law_728 : decode cL_law 728 = .ok (.aload_n 0, 1) := by decide +kernel
theorem dL_law_729 : decode cL_law 729 = .ok (.iload 4, 2) := by decide +kernel
theorem dL_law_731 : decode cL_law 731 = .ok (.iconst 1, 1) := by decide +kernel
theorem dL_law_732 : decode cL_law 732 = .ok (.iadd, 1) := by decide +kernel
theorem dL_law_733 : decode cL_law 733 = .ok (.iaload, 1) := by decide +kernel
theorem dL_law_734 : decode cL_law 734 = .ok (.invokevirtual 94, 3) := by decide +kernel
theorem dL_law_737 : decode cL_law 737 = .ok (.pop, 1) := by decide +kernel
theorem dL_law_738 : decode cL_law 738 = .ok (.aload_n 2, 1) := by decide +kernel
theorem dL_law_739 : decode cL_law 739 = .ok (.aload_n 0, 1) := by decide +kernel
theorem dL_law_740 : decode cL_law 740 = .ok (.iload 4, 2) := by decide +kernel
theorem dL_law_742 : decode cL_law 742 = .ok (.iconst 1, 1) := by decide +kernel
theorem dL_law_743 : decode cL_law 743 = .ok (.iadd, 1) := by decide +kernel
theorem dL_law_744 : decode cL_law 744 = .ok (.iaload, 1) := by decide +kernel
theorem dL_law_745 : decode cL_law 745 = .ok (.invokevirtual 97, 3) := by decide +kernel
theorem dL_law_748 : decode cL_law 748 = .ok (.pop, 1) := by decide +kernel
theorem dL_law_749 : decode cL_law 749 = .ok (.goto 572, 3) := by decide +kernel
theorem dL_law_752 : decode cL_law 752 = .ok (.aload_n 1, 1) := by decide +kernel
theorem dL_law_753 : decode cL_law 753 = .ok (.aload_n 0, 1) := by decide +kernel
theorem dL_law_754 : decode cL_law 754 = .ok (.iload 4, 2) := by decide +kernel
theorem dL_law_756 : decode cL_law 756 = .ok (.iconst 1, 1) := by decide +kernel
theorem dL_law_757 : decode cL_law 757 = .ok (.iadd, 1) := by decide +kernel
theorem dL_law_758 : decode cL_law 758 = .ok (.iaload, 1) := by decide +kernel
theorem dL_law_759 : decode cL_law 759 = .ok (.invokevirtual 98, 3) := by decide +kernel
theorem dL_law_762 : decode cL_law 762 = .ok (.pop, 1) := by decide +kernel
theorem dL_law_763 : decode cL_law 763 = .ok (.aload_n 2, 1) := by decide +kernel
theorem dL_law_764 : decode cL_law 764 = .ok (.aload_n 0, 1) := by decide +kernel
theorem dL_law_765 : decode cL_law 765 = .ok (.iload 4, 2) := by decide +kernel
theorem dL_law_767 : decode cL_law 767 = .ok (.iconst 1, 1) := by decide +kernel
theorem dL_law_768 : decode cL_law 768 = .ok (.iadd, 1) := by decide +kernel
theorem dL_law_769 : decode cL_law 769 = .ok (.iaload, 1) := by decide +kernel
theorem dL_law_770 : decode cL_law 770 = .ok (.invokevirtual 101, 3) := by decide +kernel
theorem dL_law_773 : decode cL_law 773 = .ok (.pop, 1) := by decide +kernel
theorem dL_law_774 : decode cL_law 774 = .ok (.goto 547, 3) := by decide +kernel
theorem dL_law_777 : decode cL_law 777 = .ok (.aload_n 1, 1) := by decide +kernel
theorem dL_law_778 : decode cL_law 778 = .ok (.aload_n 0, 1) := by decide +kernel
theorem dL_law_779 : decode cL_law 779 = .ok (.iload 4, 2) := by decide +kernel
theorem dL_law_781 : decode cL_law 781 = .ok (.iconst 1, 1) := by decide +kernel
theorem dL_law_782 : decode cL_law 782 = .ok (.iadd, 1) := by decide +kernel
theorem dL_law_783 : decode cL_law 783 = .ok (.iaload, 1) := by decide +kernel
theorem dL_law_784 : decode cL_law 784 = .ok (.aload_n 0, 1) := by decide +kernel
theorem dL_law_785 : decode cL_law 785 = .ok (.iload 4, 2) := by decide +kernel
theorem dL_law_787 : decode cL_law 787 = .ok (.iconst 2, 1) := by decide +kernel
theorem dL_law_788 : decode cL_law 788 = .ok (.iadd, 1) := by decide +kernel
theorem dL_law_789 : decode cL_law 789 = .ok (.iaload, 1) := by decide +kernel
theorem dL_law_790 : decode cL_law 790 = .ok (.aload_n 0, 1) := by decide +kernel
theorem dL_law_791 : decode cL_law 791 = .ok (.iload 4, 2) := by decide +kernel
theorem dL_law_793 : decode cL_law 793 = .ok (.iconst 3, 1) := by decide +kernel
theorem dL_law_794 : decode cL_law 794 = .ok (.iadd, 1) := by decide +kernel
theorem dL_law_795 : decode cL_law 795 = .ok (.iaload, 1) := by decide +kernel
theorem dL_law_796 : decode cL_law 796 = .ok (.invokevirtual 102, 3) := by decide +kernel
theorem dL_law_799 : decode cL_law 799 = .ok (.pop, 1) := by decide +kernel
theorem dL_law_800 : decode cL_law 800 = .ok (.aload_n 2, 1) := by decide +kernel
theorem dL_law_801 : decode cL_law 801 = .ok (.aload_n 0, 1) := by decide +kernel
theorem dL_law_802 : decode cL_law 802 = .ok (.iload 4, 2) := by decide +kernel
theorem dL_law_804 : decode cL_law 804 = .ok (.iconst 1, 1) := by decide +kernel
theorem dL_law_805 : decode cL_law 805 = .ok (.iadd, 1) := by decide +kernel
theorem dL_law_806 : decode cL_law 806 = .ok (.iaload, 1) := by decide +kernel
theorem dL_law_807 : decode cL_law 807 = .ok (.aload_n 0, 1) := by decide +kernel
theorem dL_law_808 : decode cL_law 808 = .ok (.iload 4, 2) := by decide +kernel
theorem dL_law_810 : decode cL_law 810 = .ok (.iconst 2, 1) := by decide +kernel
theorem dL_law_811 : decode cL_law 811 = .ok (.iadd, 1) := by decide +kernel
theorem dL_law_812 : decode cL_law 812 = .ok (.iaload, 1) := by decide +kernel
theorem dL_law_813 : decode cL_law 813 = .ok (.aload_n 0, 1) := by decide +kernel
theorem dL_law_814 : decode cL_law 814 = .ok (.iload 4, 2) := by decide +kernel
theorem dL_law_816 : decode cL_law 816 = .ok (.iconst 3, 1) := by decide +kernel
theorem dL_law_817 : decode cL_law 817 = .ok (.iadd, 1) := by decide +kernel
theorem dL_law_818 : decode cL_law 818 = .ok (.iaload, 1) := by decide +kernel
theorem dL_law_819 : decode cL_law 819 = .ok (.invokevirtual 106, 3) := by decide +kernel
theorem dL_law_822 : decode cL_law 822 = .ok (.pop, 1) := by decide +kernel
theorem dL_law_823 : decode cL_law 823 = .ok (.goto 498, 3) := by decide +kernel
theorem dL_law_826 : decode cL_law 826 = .ok (.aload_n 1, 1) := by decide +kernel
theorem dL_law_827 : decode cL_law 827 = .ok (.aload_n 0, 1) := by decide +kernel
theorem dL_law_828 : decode cL_law 828 = .ok (.iload 4, 2) := by decide +kernel
theorem dL_law_830 : decode cL_law 830 = .ok (.iconst 1, 1) := by decide +kernel
theorem dL_law_831 : decode cL_law 831 = .ok (.iadd, 1) := by decide +kernel
theorem dL_law_832 : decode cL_law 832 = .ok (.iaload, 1) := by decide +kernel
theorem dL_law_833 : decode cL_law 833 = .ok (.aload_n 0, 1) := by decide +kernel
theorem dL_law_834 : decode cL_law 834 = .ok (.iload 4, 2) := by decide +kernel
theorem dL_law_836 : decode cL_law 836 = .ok (.iconst 2, 1) := by decide +kernel
theorem dL_law_837 : decode cL_law 837 = .ok (.iadd, 1) := by decide +kernel
theorem dL_law_838 : decode cL_law 838 = .ok (.iaload, 1) := by decide +kernel
theorem dL_law_839 : decode cL_law 839 = .ok (.aload_n 0, 1) := by decide +kernel
theorem dL_law_840 : decode cL_law 840 = .ok (.iload 4, 2) := by decide +kernel
theorem dL_law_842 : decode cL_law 842 = .ok (.iconst 3, 1) := by decide +kernel
theorem dL_law_843 : decode cL_law 843 = .ok (.iadd, 1) := by decide +kernel
theorem dL_law_844 : decode cL_law 844 = .ok (.iaload, 1) := by decide +kernel
theorem dL_law_845 : decode cL_law 845 = .ok (.aload_n 0, 1) := by decide +kernel
theorem dL_law_846 : decode cL_law 846 = .ok (.iload 4, 2) := by decide +kernel
theorem dL_law_848 : decode cL_law 848 = .ok (.iconst 4, 1) := by decide +kernel
theorem dL_law_849 : decode cL_law 849 = .ok (.iadd, 1) := by decide +kernel
theorem dL_law_850 : decode cL_law 850 = .ok (.iaload, 1) := by decide +kernel
theorem dL_law_851 : decode cL_law 851 = .ok (.invokevirtual 107, 3) := by decide +kernel
theorem dL_law_854 : decode cL_law 854 = .ok (.pop, 1) := by decide +kernel
theorem dL_law_855 : decode cL_law 855 = .ok (.aload_n 2, 1) := by decide +kernel
theorem dL_law_856 : decode cL_law 856 = .ok (.aload_n 0, 1) := by decide +kernel
theorem dL_law_857 : decode cL_law 857 = .ok (.iload 4, 2) := by decide +kernel
theorem dL_law_859 : decode cL_law 859 = .ok (.iconst 1, 1) := by decide +kernel
theorem dL_law_860 : decode cL_law 860 = .ok (.iadd, 1) := by decide +kernel
theorem dL_law_861 : decode cL_law 861 = .ok (.iaload, 1) := by decide +kernel
theorem dL_law_862 : decode cL_law 862 = .ok (.aload_n 0, 1) := by decide +kernel
theorem dL_law_863 : decode cL_law 863 = .ok (.iload 4, 2) := by decide +kernel
theorem dL_law_865 : decode cL_law 865 = .ok (.iconst 2, 1) := by decide +kernel
theorem dL_law_866 : decode cL_law 866 = .ok (.iadd, 1) := by decide +kernel
theorem dL_law_867 : decode cL_law 867 = .ok (.iaload, 1) := by decide +kernel
theorem dL_law_868 : decode cL_law 868 = .ok (.aload_n 0, 1) := by decide +kernel
theorem dL_law_869 : decode cL_law 869 = .ok (.iload 4, 2) := by decide +kernel
theorem dL_law_871 : decode cL_law 871 = .ok (.iconst 3, 1) := by decide +kernel
theorem dL_law_872 : decode cL_law 872 = .ok (.iadd, 1) := by decide +kernel
theorem dL_law_873 : decode cL_law 873 = .ok (.iaload, 1) := by decide +kernel
theorem dL_law_874 : decode cL_law 874 = .ok (.aload_n 0, 1) := by decide +kernel
theorem dL_law_875 : decode cL_law 875 = .ok (.iload 4, 2) := by decide +kernel
theorem dL_law_877 : decode cL_law 877 = .ok (.iconst 4, 1) := by decide +kernel
theorem dL_law_878 : decode cL_law 878 = .ok (.iadd, 1) := by decide +kernel
theorem dL_law_879 : decode cL_law 879 = .ok (.iaload, 1) := by decide +kernel
theorem dL_law_880 : decode cL_law 880 = .ok (.invokevirtual 111, 3) := by decide +kernel
theorem dL_law_883 : decode cL_law 883 = .ok (.pop, 1) := by decide +kernel
theorem dL_law_884 : decode cL_law 884 = .ok (.goto 437, 3) := by decide +kernel
theorem dL_law_887 : decode cL_law 887 = .ok (.aload_n 1, 1) := by decide +kernel
theorem dL_law_888 : decode cL_law 888 = .ok (.aload_n 0, 1) := by decide +kernel
theorem dL_law_889 : decode cL_law 889 = .ok (.iload 4, 2) := by decide +kernel
theorem dL_law_891 : decode cL_law 891 = .ok (.iconst 1, 1) := by decide +kernel
theorem dL_law_892 : decode cL_law 892 = .ok (.iadd, 1) := by decide +kernel
theorem dL_law_893 : decode cL_law 893 = .ok (.iaload, 1) := by decide +kernel
theorem dL_law_894 : decode cL_law 894 = .ok (.aload_n 0, 1) := by decide +kernel
theorem dL_law_895 : decode cL_law 895 = .ok (.iload 4, 2) := by decide +kernel
theorem dL_law_897 : decode cL_law 897 = .ok (.iconst 2, 1) := by decide +kernel
theorem dL_law_898 : decode cL_law 898 = .ok (.iadd, 1) := by decide +kernel
theorem dL_law_899 : decode cL_law 899 = .ok (.iaload, 1) := by decide +kernel
theorem dL_law_900 : decode cL_law 900 = .ok (.invokevirtual 112, 3) := by decide +kernel
theorem dL_law_903 : decode cL_law 903 = .ok (.pop, 1) := by decide +kernel
theorem dL_law_904 : decode cL_law 904 = .ok (.aload_n 2, 1) := by decide +kernel
theorem dL_law_905 : decode cL_law 905 = .ok (.aload_n 0, 1) := by decide +kernel
theorem dL_law_906 : decode cL_law 906 = .ok (.iload 4, 2) := by decide +kernel
theorem dL_law_908 : decode cL_law 908 = .ok (.iconst 1, 1) := by decide +kernel
theorem dL_law_909 : decode cL_law 909 = .ok (.iadd, 1) := by decide +kernel
theorem dL_law_910 : decode cL_law 910 = .ok (.iaload, 1) := by decide +kernel
theorem dL_law_911 : decode cL_law 911 = .ok (.aload_n 0, 1) := by decide +kernel
theorem dL_law_912 : decode cL_law 912 = .ok (.iload 4, 2) := by decide +kernel
theorem dL_law_914 : decode cL_law 914 = .ok (.iconst 2, 1) := by decide +kernel
theorem dL_law_915 : decode cL_law 915 = .ok (.iadd, 1) := by decide +kernel
theorem dL_law_916 : decode cL_law 916 = .ok (.iaload, 1) := by decide +kernel
theorem dL_law_917 : decode cL_law 917 = .ok (.invokevirtual 115, 3) := by decide +kernel
theorem dL_law_920 : decode cL_law 920 = .ok (.pop, 1) := by decide +kernel
theorem dL_law_921 : decode cL_law 921 = .ok (.goto 400, 3) := by decide +kernel
theorem dL_law_924 : decode cL_law 924 = .ok (.aload_n 1, 1) := by decide +kernel
theorem dL_law_925 : decode cL_law 925 = .ok (.aload_n 0, 1) := by decide +kernel
theorem dL_law_926 : decode cL_law 926 = .ok (.iload 4, 2) := by decide +kernel
theorem dL_law_928 : decode cL_law 928 = .ok (.iconst 1, 1) := by decide +kernel
theorem dL_law_929 : decode cL_law 929 = .ok (.iadd, 1) := by decide +kernel
theorem dL_law_930 : decode cL_law 930 = .ok (.iaload, 1) := by decide +kernel
theorem dL_law_931 : decode cL_law 931 = .ok (.aload_n 0, 1) := by decide +kernel
theorem dL_law_932 : decode cL_law 932 = .ok (.iload 4, 2) := by decide +kernel
theorem dL_law_934 : decode cL_law 934 = .ok (.iconst 2, 1) := by decide +kernel
theorem dL_law_935 : decode cL_law 935 = .ok (.iadd, 1) := by decide +kernel
theorem dL_law_936 : decode cL_law 936 = .ok (.iaload, 1) := by decide +kernel
theorem dL_law_937 : decode cL_law 937 = .ok (.aload_n 0, 1) := by decide +kernel
theorem dL_law_938 : decode cL_law 938 = .ok (.iload 4, 2) := by decide +kernel
theorem dL_law_940 : decode cL_law 940 = .ok (.iconst 3, 1) := by decide +kernel
theorem dL_law_941 : decode cL_law 941 = .ok (.iadd, 1) := by decide +kernel
theorem dL_law_942 : decode cL_law 942 = .ok (.iaload, 1) := by decide +kernel
theorem dL_law_943 : decode cL_law 943 = .ok (.invokevirtual 116, 3) := by decide +kernel
theorem dL_law_946 : decode cL_law 946 = .ok (.pop, 1) := by decide +kernel
theorem dL_law_947 : decode cL_law 947 = .ok (.aload_n 2, 1) := by decide +kernel
theorem dL_law_948 : decode cL_law 948 = .ok (.aload_n 0, 1) := by decide +kernel
theorem dL_law_949 : decode cL_law 949 = .ok (.iload 4, 2) := by decide +kernel
theorem dL_law_951 : decode cL_law 951 = .ok (.iconst 1, 1) := by decide +kernel
theorem dL_law_952 : decode cL_law 952 = .ok (.iadd, 1) := by decide +kernel
theorem dL_law_953 : decode cL_law 953 = .ok (.iaload, 1) := by decide +kernel
theorem dL_law_954 : decode cL_law 954 = .ok (.aload_n 0, 1) := by decide +kernel
theorem dL_law_955 : decode cL_law 955 = .ok (.iload 4, 2) := by decide +kernel
theorem dL_law_957 : decode cL_law 957 = .ok (.iconst 2, 1) := by decide +kernel
theorem dL_law_958 : decode cL_law 958 = .ok (.iadd, 1) := by decide +kernel
theorem dL_law_959 : decode cL_law 959 = .ok (.iaload, 1) := by decide +kernel
theorem dL_law_960 : decode cL_law 960 = .ok (.aload_n 0, 1) := by decide +kernel
theorem dL_law_961 : decode cL_law 961 = .ok (.iload 4, 2) := by decide +kernel
theorem dL_law_963 : decode cL_law 963 = .ok (.iconst 3, 1) := by decide +kernel
theorem dL_law_964 : decode cL_law 964 = .ok (.iadd, 1) := by decide +kernel
theorem dL_law_965 : decode cL_law 965 = .ok (.iaload, 1) := by decide +kernel
theorem dL_law_966 : decode cL_law 966 = .ok (.invokevirtual 119, 3) := by decide +kernel
theorem dL_law_969 : decode cL_law 969 = .ok (.pop, 1) := by decide +kernel
theorem dL_law_970 : decode cL_law 970 = .ok (.goto 351, 3) := by decide +kernel
theorem dL_law_973 : decode cL_law 973 = .ok (.aload_n 1, 1) := by decide +kernel
theorem dL_law_974 : decode cL_law 974 = .ok (.aload_n 0, 1) := by decide +kernel
theorem dL_law_975 : decode cL_law 975 = .ok (.iload 4, 2) := by decide +kernel
theorem dL_law_977 : decode cL_law 977 = .ok (.iconst 1, 1) := by decide +kernel
theorem dL_law_978 : decode cL_law 978 = .ok (.iadd, 1) := by decide +kernel
theorem dL_law_979 : decode cL_law 979 = .ok (.iaload, 1) := by decide +kernel
theorem dL_law_980 : decode cL_law 980 = .ok (.aload_n 0, 1) := by decide +kernel
theorem dL_law_981 : decode cL_law 981 = .ok (.iload 4, 2) := by decide +kernel
theorem dL_law_983 : decode cL_law 983 = .ok (.iconst 2, 1) := by decide +kernel
theorem dL_law_984 : decode cL_law 984 = .ok (.iadd, 1) := by decide +kernel
theorem dL_law_985 : decode cL_law 985 = .ok (.iaload, 1) := by decide +kernel
theorem dL_law_986 : decode cL_law 986 = .ok (.invokevirtual 120, 3) := by decide +kernel
theorem dL_law_989 : decode cL_law 989 = .ok (.pop, 1) := by decide +kernel
theorem dL_law_990 : decode cL_law 990 = .ok (.aload_n 2, 1) := by decide +kernel
theorem dL_law_991 : decode cL_law 991 = .ok (.aload_n 0, 1) := by decide +kernel
theorem dL_law_992 : decode cL_law 992 = .ok (.iload 4, 2) := by decide +kernel
theorem dL_law_994 : decode cL_law 994 = .ok (.iconst 1, 1) := by decide +kernel
theorem dL_law_995 : decode cL_law 995 = .ok (.iadd, 1) := by decide +kernel
theorem dL_law_996 : decode cL_law 996 = .ok (.iaload, 1) := by decide +kernel
theorem dL_law_997 : decode cL_law 997 = .ok (.aload_n 0, 1) := by decide +kernel
theorem dL_law_998 : decode cL_law 998 = .ok (.iload 4, 2) := by decide +kernel
theorem dL_law_1000 : decode cL_law 1000 = .ok (.iconst 2, 1) := by decide +kernel
theorem dL_law_1001 : decode cL_law 1001 = .ok (.iadd, 1) := by decide +kernel
theorem dL_law_1002 : decode cL_law 1002 = .ok (.iaload, 1) := by decide +kernel
theorem dL_law_1003 : decode cL_law 1003 = .ok (.invokevirtual 123, 3) := by decide +kernel
theorem dL_law_1006 : decode cL_law 1006 = .ok (.pop, 1) := by decide +kernel
theorem dL_law_1007 : decode cL_law 1007 = .ok (.goto 314, 3) := by decide +kernel
theorem dL_law_1010 : decode cL_law 1010 = .ok (.aload_n 1, 1) := by decide +kernel
theorem dL_law_1011 : decode cL_law 1011 = .ok (.invokevirtual 124, 3) := by decide +kernel
theorem dL_law_1014 : decode cL_law 1014 = .ok (.pop, 1) := by decide +kernel
theorem dL_law_1015 : decode cL_law 1015 = .ok (.aload_n 2, 1) := by decide +kernel
theorem dL_law_1016 : decode cL_law 1016 = .ok (.invokevirtual 127, 3) := by decide +kernel
theorem dL_law_1019 : decode cL_law 1019 = .ok (.pop, 1) := by decide +kernel
theorem dL_law_1020 : decode cL_law 1020 = .ok (.goto 301, 3) := by decide +kernel
theorem dL_law_1023 : decode cL_law 1023 = .ok (.aload_n 1, 1) := by decide +kernel
theorem dL_law_1024 : decode cL_law 1024 = .ok (.aload_n 0, 1) := by decide +kernel
theorem dL_law_1025 : decode cL_law 1025 = .ok (.iload 4, 2) := by decide +kernel
theorem dL_law_1027 : decode cL_law 1027 = .ok (.iconst 1, 1) := by decide +kernel
theorem dL_law_1028 : decode cL_law 1028 = .ok (.iadd, 1) := by decide +kernel
theorem dL_law_1029 : decode cL_law 1029 = .ok (.iaload, 1) := by decide +kernel
theorem dL_law_1030 : decode cL_law 1030 = .ok (.invokevirtual 128, 3) := by decide +kernel
theorem dL_law_1033 : decode cL_law 1033 = .ok (.pop, 1) := by decide +kernel
theorem dL_law_1034 : decode cL_law 1034 = .ok (.aload_n 2, 1) := by decide +kernel
theorem dL_law_1035 : decode cL_law 1035 = .ok (.aload_n 0, 1) := by decide +kernel
theorem dL_law_1036 : decode cL_law 1036 = .ok (.iload 4, 2) := by decide +kernel
theorem dL_law_1038 : decode cL_law 1038 = .ok (.iconst 1, 1) := by decide +kernel
theorem dL_law_1039 : decode cL_law 1039 = .ok (.iadd, 1) := by decide +kernel
theorem dL_law_1040 : decode cL_law 1040 = .ok (.iaload, 1) := by decide +kernel
theorem dL_law_1041 : decode cL_law 1041 = .ok (.invokevirtual 131, 3) := by decide +kernel
theorem dL_law_1044 : decode cL_law 1044 = .ok (.pop, 1) := by decide +kernel
theorem dL_law_1045 : decode cL_law 1045 = .ok (.goto 276, 3) := by decide +kernel
theorem dL_law_1048 : decode cL_law 1048 = .ok (.aload_n 1, 1) := by decide +kernel
theorem dL_law_1049 : decode cL_law 1049 = .ok (.aload_n 0, 1) := by decide +kernel
theorem dL_law_1050 : decode cL_law 1050 = .ok (.iload 4, 2) := by decide +kernel
theorem dL_law_1052 : decode cL_law 1052 = .ok (.iconst 1, 1) := by decide +kernel
theorem dL_law_1053 : decode cL_law 1053 = .ok (.iadd, 1) := by decide +kernel
theorem dL_law_1054 : decode cL_law 1054 = .ok (.iaload, 1) := by decide +kernel
theorem dL_law_1055 : decode cL_law 1055 = .ok (.invokevirtual 132, 3) := by decide +kernel
theorem dL_law_1058 : decode cL_law 1058 = .ok (.pop, 1) := by decide +kernel
theorem dL_law_1059 : decode cL_law 1059 = .ok (.aload_n 2, 1) := by decide +kernel
theorem dL_law_1060 : decode cL_law 1060 = .ok (.aload_n 0, 1) := by decide +kernel
theorem dL_law_1061 : decode cL_law 1061 = .ok (.iload 4, 2) := by decide +kernel
theorem dL_law_1063 : decode cL_law 1063 = .ok (.iconst 1, 1) := by decide +kernel
theorem dL_law_1064 : decode cL_law 1064 = .ok (.iadd, 1) := by decide +kernel
theorem dL_law_1065 : decode cL_law 1065 = .ok (.iaload, 1) := by decide +kernel
theorem dL_law_1066 : decode cL_law 1066 = .ok (.invokevirtual 135, 3) := by decide +kernel
theorem dL_law_1069 : decode cL_law 1069 = .ok (.pop, 1) := by decide +kernel
theorem dL_law_1070 : decode cL_law 1070 = .ok (.goto 251, 3) := by decide +kernel
theorem dL_law_1073 : decode cL_law 1073 = .ok (.aload_n 1, 1) := by decide +kernel
theorem dL_law_1074 : decode cL_law 1074 = .ok (.aload_n 0, 1) := by decide +kernel
theorem dL_law_1075 : decode cL_law 1075 = .ok (.iload 4, 2) := by decide +kernel
theorem dL_law_1077 : decode cL_law 1077 = .ok (.iconst 1, 1) := by decide +kernel
theorem dL_law_1078 : decode cL_law 1078 = .ok (.iadd, 1) := by decide +kernel
theorem dL_law_1079 : decode cL_law 1079 = .ok (.iaload, 1) := by decide +kernel
theorem dL_law_1080 : decode cL_law 1080 = .ok (.aload_n 0, 1) := by decide +kernel
theorem dL_law_1081 : decode cL_law 1081 = .ok (.iload 4, 2) := by decide +kernel
theorem dL_law_1083 : decode cL_law 1083 = .ok (.iconst 2, 1) := by decide +kernel
theorem dL_law_1084 : decode cL_law 1084 = .ok (.iadd, 1) := by decide +kernel
theorem dL_law_1085 : decode cL_law 1085 = .ok (.iaload, 1) := by decide +kernel
theorem dL_law_1086 : decode cL_law 1086 = .ok (.aload_n 0, 1) := by decide +kernel
theorem dL_law_1087 : decode cL_law 1087 = .ok (.iload 4, 2) := by decide +kernel
theorem dL_law_1089 : decode cL_law 1089 = .ok (.iconst 3, 1) := by decide +kernel
theorem dL_law_1090 : decode cL_law 1090 = .ok (.iadd, 1) := by decide +kernel
theorem dL_law_1091 : decode cL_law 1091 = .ok (.iaload, 1) := by decide +kernel
theorem dL_law_1092 : decode cL_law 1092 = .ok (.invokevirtual 136, 3) := by decide +kernel
theorem dL_law_1095 : decode cL_law 1095 = .ok (.pop, 1) := by decide +kernel
theorem dL_law_1096 : decode cL_law 1096 = .ok (.aload_n 2, 1) := by decide +kernel
theorem dL_law_1097 : decode cL_law 1097 = .ok (.aload_n 0, 1) := by decide +kernel
theorem dL_law_1098 : decode cL_law 1098 = .ok (.iload 4, 2) := by decide +kernel
theorem dL_law_1100 : decode cL_law 1100 = .ok (.iconst 1, 1) := by decide +kernel
theorem dL_law_1101 : decode cL_law 1101 = .ok (.iadd, 1) := by decide +kernel
theorem dL_law_1102 : decode cL_law 1102 = .ok (.iaload, 1) := by decide +kernel
theorem dL_law_1103 : decode cL_law 1103 = .ok (.aload_n 0, 1) := by decide +kernel
theorem dL_law_1104 : decode cL_law 1104 = .ok (.iload 4, 2) := by decide +kernel
theorem dL_law_1106 : decode cL_law 1106 = .ok (.iconst 2, 1) := by decide +kernel
theorem dL_law_1107 : decode cL_law 1107 = .ok (.iadd, 1) := by decide +kernel
theorem dL_law_1108 : decode cL_law 1108 = .ok (.iaload, 1) := by decide +kernel
theorem dL_law_1109 : decode cL_law 1109 = .ok (.aload_n 0, 1) := by decide +kernel
theorem dL_law_1110 : decode cL_law 1110 = .ok (.iload 4, 2) := by decide +kernel
theorem dL_law_1112 : decode cL_law 1112 = .ok (.iconst 3, 1) := by decide +kernel
theorem dL_law_1113 : decode cL_law 1113 = .ok (.iadd, 1) := by decide +kernel
theorem dL_law_1114 : decode cL_law 1114 = .ok (.iaload, 1) := by decide +kernel
theorem dL_law_1115 : decode cL_law 1115 = .ok (.invokevirtual 139, 3) := by decide +kernel
theorem dL_law_1118 : decode cL_law 1118 = .ok (.pop, 1) := by decide +kernel
theorem dL_law_1119 : decode cL_law 1119 = .ok (.goto 202, 3) := by decide +kernel
theorem dL_law_1122 : decode cL_law 1122 = .ok (.aload_n 1, 1) := by decide +kernel
theorem dL_law_1123 : decode cL_law 1123 = .ok (.aload_n 0, 1) := by decide +kernel
theorem dL_law_1124 : decode cL_law 1124 = .ok (.iload 4, 2) := by decide +kernel
theorem dL_law_1126 : decode cL_law 1126 = .ok (.iconst 1, 1) := by decide +kernel
theorem dL_law_1127 : decode cL_law 1127 = .ok (.iadd, 1) := by decide +kernel
theorem dL_law_1128 : decode cL_law 1128 = .ok (.iaload, 1) := by decide +kernel
theorem dL_law_1129 : decode cL_law 1129 = .ok (.invokevirtual 140, 3) := by decide +kernel
theorem dL_law_1132 : decode cL_law 1132 = .ok (.pop, 1) := by decide +kernel
theorem dL_law_1133 : decode cL_law 1133 = .ok (.aload_n 2, 1) := by decide +kernel
theorem dL_law_1134 : decode cL_law 1134 = .ok (.aload_n 0, 1) := by decide +kernel
theorem dL_law_1135 : decode cL_law 1135 = .ok (.iload 4, 2) := by decide +kernel
theorem dL_law_1137 : decode cL_law 1137 = .ok (.iconst 1, 1) := by decide +kernel
theorem dL_law_1138 : decode cL_law 1138 = .ok (.iadd, 1) := by decide +kernel
theorem dL_law_1139 : decode cL_law 1139 = .ok (.iaload, 1) := by decide +kernel
theorem dL_law_1140 : decode cL_law 1140 = .ok (.invokevirtual 143, 3) := by decide +kernel
theorem dL_law_1143 : decode cL_law 1143 = .ok (.pop, 1) := by decide +kernel
theorem dL_law_1144 : decode cL_law 1144 = .ok (.goto 177, 3) := by decide +kernel
theorem dL_law_1147 : decode cL_law 1147 = .ok (.aload_n 1, 1) := by decide +kernel
theorem dL_law_1148 : decode cL_law 1148 = .ok (.aload_n 0, 1) := by decide +kernel
theorem dL_law_1149 : decode cL_law 1149 = .ok (.iload 4, 2) := by decide +kernel
theorem dL_law_1151 : decode cL_law 1151 = .ok (.iconst 1, 1) := by decide +kernel
theorem dL_law_1152 : decode cL_law 1152 = .ok (.iadd, 1) := by decide +kernel
theorem dL_law_1153 : decode cL_law 1153 = .ok (.iaload, 1) := by decide +kernel
theorem dL_law_1154 : decode cL_law 1154 = .ok (.invokevirtual 144, 3) := by decide +kernel
theorem dL_law_1157 : decode cL_law 1157 = .ok (.pop, 1) := by decide +kernel
theorem dL_law_1158 : decode cL_law 1158 = .ok (.aload_n 2, 1) := by decide +kernel
theorem dL_law_1159 : decode cL_law 1159 = .ok (.aload_n 0, 1) := by decide +kernel
theorem dL_law_1160 : decode cL_law 1160 = .ok (.iload 4, 2) := by decide +kernel
theorem dL_law_1162 : decode cL_law 1162 = .ok (.iconst 1, 1) := by decide +kernel
theorem dL_law_1163 : decode cL_law 1163 = .ok (.iadd, 1) := by decide +kernel
theorem dL_law_1164 : decode cL_law 1164 = .ok (.iaload, 1) := by decide +kernel
theorem dL_law_1165 : decode cL_law 1165 = .ok (.invokevirtual 147, 3) := by decide +kernel
theorem dL_law_1168 : decode cL_law 1168 = .ok (.pop, 1) := by decide +kernel
theorem dL_law_1169 : decode cL_law 1169 = .ok (.goto 152, 3) := by decide +kernel
theorem dL_law_1172 : decode cL_law 1172 = .ok (.aload_n 1, 1) := by decide +kernel
theorem dL_law_1173 : decode cL_law 1173 = .ok (.aload_n 0, 1) := by decide +kernel
theorem dL_law_1174 : decode cL_law 1174 = .ok (.iload 4, 2) := by decide +kernel
theorem dL_law_1176 : decode cL_law 1176 = .ok (.iconst 1, 1) := by decide +kernel
theorem dL_law_1177 : decode cL_law 1177 = .ok (.iadd, 1) := by decide +kernel
theorem dL_law_1178 : decode cL_law 1178 = .ok (.iaload, 1) := by decide +kernel
theorem dL_law_1179 : decode cL_law 1179 = .ok (.aload_n 0, 1) := by decide +kernel
theorem dL_law_1180 : decode cL_law 1180 = .ok (.iload 4, 2) := by decide +kernel
theorem dL_law_1182 : decode cL_law 1182 = .ok (.iconst 2, 1) := by decide +kernel
theorem dL_law_1183 : decode cL_law 1183 = .ok (.iadd, 1) := by decide +kernel
theorem dL_law_1184 : decode cL_law 1184 = .ok (.iaload, 1) := by decide +kernel
theorem dL_law_1185 : decode cL_law 1185 = .ok (.invokevirtual 148, 3) := by decide +kernel
theorem dL_law_1188 : decode cL_law 1188 = .ok (.pop2, 1) := by decide +kernel
theorem dL_law_1189 : decode cL_law 1189 = .ok (.aload_n 2, 1) := by decide +kernel
theorem dL_law_1190 : decode cL_law 1190 = .ok (.aload_n 0, 1) := by decide +kernel
theorem dL_law_1191 : decode cL_law 1191 = .ok (.iload 4, 2) := by decide +kernel
theorem dL_law_1193 : decode cL_law 1193 = .ok (.iconst 1, 1) := by decide +kernel
theorem dL_law_1194 : decode cL_law 1194 = .ok (.iadd, 1) := by decide +kernel
theorem dL_law_1195 : decode cL_law 1195 = .ok (.iaload, 1) := by decide +kernel
theorem dL_law_1196 : decode cL_law 1196 = .ok (.aload_n 0, 1) := by decide +kernel
theorem dL_law_1197 : decode cL_law 1197 = .ok (.iload 4, 2) := by decide +kernel
theorem dL_law_1199 : decode cL_law 1199 = .ok (.iconst 2, 1) := by decide +kernel
theorem dL_law_1200 : decode cL_law 1200 = .ok (.iadd, 1) := by decide +kernel
theorem dL_law_1201 : decode cL_law 1201 = .ok (.iaload, 1) := by decide +kernel
theorem dL_law_1202 : decode cL_law 1202 = .ok (.invokevirtual 152, 3) := by decide +kernel
theorem dL_law_1205 : decode cL_law 1205 = .ok (.pop2, 1) := by decide +kernel
theorem dL_law_1206 : decode cL_law 1206 = .ok (.goto 115, 3) := by decide +kernel
theorem dL_law_1209 : decode cL_law 1209 = .ok (.aload_n 1, 1) := by decide +kernel
theorem dL_law_1210 : decode cL_law 1210 = .ok (.aload_n 0, 1) := by decide +kernel
theorem dL_law_1211 : decode cL_law 1211 = .ok (.iload 4, 2) := by decide +kernel
theorem dL_law_1213 : decode cL_law 1213 = .ok (.iconst 1, 1) := by decide +kernel
theorem dL_law_1214 : decode cL_law 1214 = .ok (.iadd, 1) := by decide +kernel
theorem dL_law_1215 : decode cL_law 1215 = .ok (.iaload, 1) := by decide +kernel
theorem dL_law_1216 : decode cL_law 1216 = .ok (.aload_n 0, 1) := by decide +kernel
theorem dL_law_1217 : decode cL_law 1217 = .ok (.iload 4, 2) := by decide +kernel
theorem dL_law_1219 : decode cL_law 1219 = .ok (.iconst 2, 1) := by decide +kernel
theorem dL_law_1220 : decode cL_law 1220 = .ok (.iadd, 1) := by decide +kernel
theorem dL_law_1221 : decode cL_law 1221 = .ok (.iaload, 1) := by decide +kernel
theorem dL_law_1222 : decode cL_law 1222 = .ok (.aload_n 0, 1) := by decide +kernel
theorem dL_law_1223 : decode cL_law 1223 = .ok (.iload 4, 2) := by decide +kernel
theorem dL_law_1225 : decode cL_law 1225 = .ok (.iconst 3, 1) := by decide +kernel
theorem dL_law_1226 : decode cL_law 1226 = .ok (.iadd, 1) := by decide +kernel
theorem dL_law_1227 : decode cL_law 1227 = .ok (.iaload, 1) := by decide +kernel
theorem dL_law_1228 : decode cL_law 1228 = .ok (.aload_n 0, 1) := by decide +kernel
theorem dL_law_1229 : decode cL_law 1229 = .ok (.iload 4, 2) := by decide +kernel
theorem dL_law_1231 : decode cL_law 1231 = .ok (.iconst 4, 1) := by decide +kernel
theorem dL_law_1232 : decode cL_law 1232 = .ok (.iadd, 1) := by decide +kernel
theorem dL_law_1233 : decode cL_law 1233 = .ok (.iaload, 1) := by decide +kernel
theorem dL_law_1234 : decode cL_law 1234 = .ok (.invokevirtual 153, 3) := by decide +kernel
theorem dL_law_1237 : decode cL_law 1237 = .ok (.pop, 1) := by decide +kernel
theorem dL_law_1238 : decode cL_law 1238 = .ok (.aload_n 2, 1) := by decide +kernel
theorem dL_law_1239 : decode cL_law 1239 = .ok (.aload_n 0, 1) := by decide +kernel
theorem dL_law_1240 : decode cL_law 1240 = .ok (.iload 4, 2) := by decide +kernel
theorem dL_law_1242 : decode cL_law 1242 = .ok (.iconst 1, 1) := by decide +kernel
theorem dL_law_1243 : decode cL_law 1243 = .ok (.iadd, 1) := by decide +kernel
theorem dL_law_1244 : decode cL_law 1244 = .ok (.iaload, 1) := by decide +kernel
theorem dL_law_1245 : decode cL_law 1245 = .ok (.aload_n 0, 1) := by decide +kernel
theorem dL_law_1246 : decode cL_law 1246 = .ok (.iload 4, 2) := by decide +kernel
theorem dL_law_1248 : decode cL_law 1248 = .ok (.iconst 2, 1) := by decide +kernel
theorem dL_law_1249 : decode cL_law 1249 = .ok (.iadd, 1) := by decide +kernel
theorem dL_law_1250 : decode cL_law 1250 = .ok (.iaload, 1) := by decide +kernel
theorem dL_law_1251 : decode cL_law 1251 = .ok (.aload_n 0, 1) := by decide +kernel
theorem dL_law_1252 : decode cL_law 1252 = .ok (.iload 4, 2) := by decide +kernel
theorem dL_law_1254 : decode cL_law 1254 = .ok (.iconst 3, 1) := by decide +kernel
theorem dL_law_1255 : decode cL_law 1255 = .ok (.iadd, 1) := by decide +kernel
theorem dL_law_1256 : decode cL_law 1256 = .ok (.iaload, 1) := by decide +kernel
theorem dL_law_1257 : decode cL_law 1257 = .ok (.aload_n 0, 1) := by decide +kernel
theorem dL_law_1258 : decode cL_law 1258 = .ok (.iload 4, 2) := by decide +kernel
theorem dL_law_1260 : decode cL_law 1260 = .ok (.iconst 4, 1) := by decide +kernel
theorem dL_law_1261 : decode cL_law 1261 = .ok (.iadd, 1) := by decide +kernel
theorem dL_law_1262 : decode cL_law 1262 = .ok (.iaload, 1) := by decide +kernel
theorem dL_law_1263 : decode cL_law 1263 = .ok (.invokevirtual 156, 3) := by decide +kernel
theorem dL_law_1266 : decode cL_law 1266 = .ok (.pop, 1) := by decide +kernel
theorem dL_law_1267 : decode cL_law 1267 = .ok (.goto 54, 3) := by decide +kernel
theorem dL_law_1270 : decode cL_law 1270 = .ok (.aload_n 1, 1) := by decide +kernel
theorem dL_law_1271 : decode cL_law 1271 = .ok (.invokevirtual 157, 3) := by decide +kernel
theorem dL_law_1274 : decode cL_law 1274 = .ok (.pop, 1) := by decide +kernel
theorem dL_law_1275 : decode cL_law 1275 = .ok (.aload_n 2, 1) := by decide +kernel
theorem dL_law_1276 : decode cL_law 1276 = .ok (.invokevirtual 160, 3) := by decide +kernel
theorem dL_law_1279 : decode cL_law 1279 = .ok (.pop, 1) := by decide +kernel
theorem dL_law_1280 : decode cL_law 1280 = .ok (.goto 41, 3) := by decide +kernel
theorem dL_law_1283 : decode cL_law 1283 = .ok (.aload_n 1, 1) := by decide +kernel
theorem dL_law_1284 : decode cL_law 1284 = .ok (.invokevirtual 161, 3) := by decide +kernel
theorem dL_law_1287 : decode cL_law 1287 = .ok (.aload_n 2, 1) := by decide +kernel
theorem dL_law_1288 : decode cL_law 1288 = .ok (.invokevirtual 164, 3) := by decide +kernel
theorem dL_law_1291 : decode cL_law 1291 = .ok (.if_icmp .eq 30, 3) := by decide +kernel
theorem dL_law_1296 : decode cL_law 1296 = .ok (.aload_n 1, 1) := by decide +kernel
theorem dL_law_1297 : decode cL_law 1297 = .ok (.aload_n 0, 1) := by decide +kernel
theorem dL_law_1298 : decode cL_law 1298 = .ok (.iload 4, 2) := by decide +kernel
theorem dL_law_1300 : decode cL_law 1300 = .ok (.iconst 1, 1) := by decide +kernel
theorem dL_law_1301 : decode cL_law 1301 = .ok (.iadd, 1) := by decide +kernel
theorem dL_law_1302 : decode cL_law 1302 = .ok (.iaload, 1) := by decide +kernel
theorem dL_law_1303 : decode cL_law 1303 = .ok (.invokevirtual 165, 3) := by decide +kernel
theorem dL_law_1306 : decode cL_law 1306 = .ok (.pop, 1) := by decide +kernel
theorem dL_law_1307 : decode cL_law 1307 = .ok (.aload_n 2, 1) := by decide +kernel
theorem dL_law_1308 : decode cL_law 1308 = .ok (.aload_n 0, 1) := by decide +kernel
theorem dL_law_1309 : decode cL_law 1309 = .ok (.iload 4, 2) := by decide +kernel
theorem dL_law_1311 : decode cL_law 1311 = .ok (.iconst 1, 1) := by decide +kernel
theorem dL_law_1312 : decode cL_law 1312 = .ok (.iadd, 1) := by decide +kernel
theorem dL_law_1313 : decode cL_law 1313 = .ok (.iaload, 1) := by decide +kernel
theorem dL_law_1314 : decode cL_law 1314 = .ok (.invokevirtual 168, 3) := by decide +kernel
theorem dL_law_1317 : decode cL_law 1317 = .ok (.pop, 1) := by decide +kernel
theorem dL_law_1318 : decode cL_law 1318 = .ok (.goto 3, 3) := by decide +kernel
theorem dL_law_1321 : decode cL_law 1321 = .ok (.iinc 4 6, 3) := by decide +kernel
theorem dL_law_1324 : decode cL_law 1324 = .ok (.goto (-1301), 3) := by decide +kernel
theorem dL_law_1327 : decode cL_law 1327 = .ok (.iconst 1, 1) := by decide +kernel
theorem dL_law_1328 : decode cL_law 1328 = .ok (.ireturn, 1) := by decide +kernel
set_option maxHeartbeats 4000000 in
set_option maxRecDepth 100000 in
theorem lc_0 {p : Program} {e : Env} {s : State} {m : MethodId} {below : List Frame} {meth : Method} {c : Code} (l : Launch) (hst : l.stackTraces = false) {b N : Nat} {xs : Nat → Int32} (C0 : lw_At p s m meth c b N xs) (G0 : CallFix p m c cL_law 7 s #[Value.ref b] w_L_law RL) (hN : N ≤ 3072) {E : py_E} {L : List Nat} {f : py_F} {H : Heap} {locs : List Loc} (hw : py_W E (fun q : Nat => s.heap.size ≤ q) s L f H locs) {x u o : Nat} (hLW : LW E L f x u o) {i : Int32} (hi0 : 0 ≤ i.toInt) (hiN : i.toInt + 6 ≤ N) {C S : Nat} (hC : C + 8 ≤ 601024) (hS : S + 256 ≤ 7293034) {ls : Array Slot} (hl : lv_has ls 7 [(4, .int i), (3, .ref o), (2, .ref u), (1, .ref x), (0, .ref b)]) (kk : ∀ (L1 : List Nat) (f1 : py_F) (H1 : Heap) (locs1 : List Loc) (ls1 : Array Slot), LW E L1 f1 x u o → py_W E (fun q : Nat => s.heap.size ≤ q) s L1 f1 H1 locs1 → lv_has ls1 7 [(4, .int i), (3, .ref o), (2, .ref u), (1, .ref x), (0, .ref b)] → W p l e room_1 s m #[Value.ref b] below meth c H1 locs1 (C + 8) (S + 256) (lw_Z below #[Value.ref b] s) (F0 m 1321 ls1 [])) : W p l e room_1 s m #[Value.ref b] below meth c H locs (C) (S) (lw_Z below #[Value.ref b] s) (F0 m 192 ls []) := by
  obtain ⟨hx, hb, hr, hml, hown, hts, hX, hbl, hlocks, hgv⟩ := id C0
  have hbA : ¬ (fun q : Nat => s.heap.size ≤ q) b := Nat.not_le.mpr hbl
  have kcm1 : (-1 : Int32).toInt = -1 := rfl
  have kc0 : (0 : Int32).toInt = 0 := rfl
  have kc1 : (1 : Int32).toInt = 1 := rfl
  have kc2 : (2 : Int32).toInt = 2 := rfl
  have kc3 : (3 : Int32).toInt = 3 := rfl
  have kc4 : (4 : Int32).toInt = 4 := rfl
  have kc5 : (5 : Int32).toInt = 5 := rfl
  obtain ⟨G, gb, nb, hG, hWF, Tx, Tu, To, hGI, hGM, hTI, hTY⟩ := hLW
  refine lv_aload_n G0.1 G0.2.1 dL_law_192 rfl (lv_at hl 3 rfl) ?_
  refine lv_aload_n G0.1 G0.2.1 dL_law_193 rfl (lv_at hl 4 rfl) ?_
  refine lv_iload G0.1 G0.2.1 dL_law_194 (lv_at hl 0 rfl) ?_
  refine lv_iconst (v := 1) G0.1 G0.2.1 dL_law_196 (by decide) ?_
  refine lv_iadd G0.1 G0.2.1 dL_law_197 ?_
  refine lv_topi (fun x_1 ex_1 => ?_)
  first | have tx_1 := ti_add ex_1 (by omega) (by omega) | skip
  have rg_2 : vp_in x_1 N := ti_in (by omega) (by omega)
  refine va_sld G0.1 G0.2.1 hX hbl hbA hw.2.2.2.1 rg_2 dL_law_198 ?_
  refine lv_topi (fun x_3 ex_3 => ?_)
  refine lv_aload_n G0.1 G0.2.1 dL_law_199 rfl (lv_at hl 4 rfl) ?_
  refine lv_iload G0.1 G0.2.1 dL_law_200 (lv_at hl 0 rfl) ?_
  refine lv_iconst (v := 2) G0.1 G0.2.1 dL_law_202 (by decide) ?_
  refine lv_iadd G0.1 G0.2.1 dL_law_203 ?_
  refine lv_topi (fun x_4 ex_4 => ?_)
  first | have tx_4 := ti_add ex_4 (by omega) (by omega) | skip
  have rg_5 : vp_in x_4 N := ti_in (by omega) (by omega)
  refine va_sld G0.1 G0.2.1 hX hbl hbA hw.2.2.2.1 rg_5 dL_law_204 ?_
  refine lv_topi (fun x_6 ex_6 => ?_)
  refine lv_aload_n G0.1 G0.2.1 dL_law_205 rfl (lv_at hl 4 rfl) ?_
  refine lv_iload G0.1 G0.2.1 dL_law_206 (lv_at hl 0 rfl) ?_
  refine lv_iconst (v := 3) G0.1 G0.2.1 dL_law_208 (by decide) ?_
  refine lv_iadd G0.1 G0.2.1 dL_law_209 ?_
  refine lv_topi (fun x_7 ex_7 => ?_)
  first | have tx_7 := ti_add ex_7 (by omega) (by omega) | skip
  have rg_8 : vp_in x_7 N := ti_in (by omega) (by omega)
  refine va_sld G0.1 G0.2.1 hX hbl hbA hw.2.2.2.1 rg_8 dL_law_210 ?_
  refine lv_topi (fun x_9 ex_9 => ?_)
  refine lv_aload_n G0.1 G0.2.1 dL_law_211 rfl (lv_at hl 4 rfl) ?_
  refine lv_iload G0.1 G0.2.1 dL_law_212 (lv_at hl 0 rfl) ?_
  refine lv_iconst (v := 4) G0.1 G0.2.1 dL_law_214 (by decide) ?_
  refine lv_iadd G0.1 G0.2.1 dL_law_215 ?_
  refine lv_topi (fun x_10 ex_10 => ?_)
  first | have tx_10 := ti_add ex_10 (by omega) (by omega) | skip
  have rg_11 : vp_in x_10 N := ti_in (by omega) (by omega)
  refine va_sld G0.1 G0.2.1 hX hbl hbA hw.2.2.2.1 rg_11 dL_law_216 ?_
  refine lv_topi (fun x_12 ex_12 => ?_)
  refine lv_aload_n G0.1 G0.2.1 dL_law_217 rfl (lv_at hl 4 rfl) ?_
  refine lv_iload G0.1 G0.2.1 dL_law_218 (lv_at hl 0 rfl) ?_
  refine lv_iconst (v := 5) G0.1 G0.2.1 dL_law_220 (by decide) ?_
  refine lv_iadd G0.1 G0.2.1 dL_law_221 ?_
  refine lv_topi (fun x_13 ex_13 => ?_)
  first | have tx_13 := ti_add ex_13 (by omega) (by omega) | skip
  have rg_14 : vp_in x_13 N := ti_in (by omega) (by omega)
  refine va_sld G0.1 G0.2.1 hX hbl hbA hw.2.2.2.1 rg_14 dL_law_222 ?_
  refine lv_topi (fun x_15 ex_15 => ?_)
  have hT1 := hTI.1
  obtain ⟨v_22, v_23, v_24, hr_21, -⟩ := wg_11 hWF Tx
  have ht10 := fo_ty hWF (wt_11 hG Tx).2.2.2.2.2.1
  refine py_calli hw (va_runV (As := [.int x_3, .int x_6, .int x_9, .int x_12, .int x_15]) (rest := []) G0 (c_X11_feed l E G L f H.size x x_3 x_6 x_9 x_12 x_15 gb nb hG hWF Tx (by omega) hGI hTI.2.1) (cwV 5 G0.2.2.2.2 g_L_law_X11_feed_19 rfl rfl rfl (by decide +kernel) ⟨(Nat.le_of_ble_eq_true rfl), (Nat.le_of_ble_eq_true rfl)⟩) (py_preV hw (C := RX11) (T := TX11) (N := 16) rfl hr_21) rfl rfl hl.1 rfl (lv_room (Nat.le_of_ble_eq_true rfl)) dL_law_223 ⟨rm_c (by omega), rm_s (by omega)⟩) (fun r_20 L_16 f_17 H_18 locs hp_19 hw => ?_)
  obtain ⟨en0r_20, hWF, kp_25, hGI⟩ := hp_19
  have hGM := hGM.kps hG Tu kp_25 (LK.of (by decide)) (by decide)
  have hTY := hTY.cl hG Tx Tu kp_25 (by decide) (cls_kp hG Tx ht10 kp_25 (by decide)) (hy_same (kp_f kp_25 Tx (by decide) (by decide) (fun _ => by decide))).2
  have eu : f_17 u = f u := kp_f kp_25 Tu (by decide) (by decide) (fun _ => by decide)
  have e40 : f_17 (G.2 u 1) = f (G.2 u 1) := kp_f kp_25 (wt12_1 hG Tu) (by decide) (by decide) (fun _ => by decide)
  have hm2 : mi f_17 u 2 = nb := (mi_kp eu 2).trans hTI.1.2.1
  have hm13 : mi f_17 u 13 = hy_n f x := (mi_kp eu 13).trans hTI.1.2.2.2.2.symm
  have hMB1 := hTI.2.2.1.kp e40
  have ex : hy_n f_17 x = hy_n f x := (hy_same (kp_f kp_25 Tx (by decide) (by decide) (fun _ => by decide))).1
  refine lv_pop G0.1 G0.2.1 dL_law_226 rfl ?_
  refine lv_aload_n G0.1 G0.2.1 dL_law_227 rfl (lv_at hl 2 rfl) ?_
  refine lv_aload_n G0.1 G0.2.1 dL_law_228 rfl (lv_at hl 4 rfl) ?_
  refine lv_iload G0.1 G0.2.1 dL_law_229 (lv_at hl 0 rfl) ?_
  refine lv_iconst (v := 1) G0.1 G0.2.1 dL_law_231 (by decide) ?_
  refine lv_iadd G0.1 G0.2.1 dL_law_232 ?_
  refine lv_topi (fun x_26 ex_26 => ?_)
  first | have tx_26 := ti_add ex_26 (by omega) (by omega) | skip
  have rg_27 : vp_in x_26 N := ti_in (by omega) (by omega)
  refine va_sld G0.1 G0.2.1 hX hbl hbA hw.2.2.2.1 rg_27 dL_law_233 ?_
  refine lv_topi (fun x_28 ex_28 => ?_)
  have Qx_28 : x_28 = x_3 := by rw [ex_28, ex_3, ex_26, ex_1]
  have qx_28 : x_28.toInt = x_3.toInt := by rw [Qx_28]
  refine lv_aload_n G0.1 G0.2.1 dL_law_234 rfl (lv_at hl 4 rfl) ?_
  refine lv_iload G0.1 G0.2.1 dL_law_235 (lv_at hl 0 rfl) ?_
  refine lv_iconst (v := 2) G0.1 G0.2.1 dL_law_237 (by decide) ?_
  refine lv_iadd G0.1 G0.2.1 dL_law_238 ?_
  refine lv_topi (fun x_29 ex_29 => ?_)
  first | have tx_29 := ti_add ex_29 (by omega) (by omega) | skip
  have rg_30 : vp_in x_29 N := ti_in (by omega) (by omega)
  refine va_sld G0.1 G0.2.1 hX hbl hbA hw.2.2.2.1 rg_30 dL_law_239 ?_
  refine lv_topi (fun x_31 ex_31 => ?_)
  have Qx_31 : x_31 = x_6 := by rw [ex_31, ex_6, ex_29, ex_4]
  have qx_31 : x_31.toInt = x_6.toInt := by rw [Qx_31]
  refine lv_aload_n G0.1 G0.2.1 dL_law_240 rfl (lv_at hl 4 rfl) ?_
  refine lv_iload G0.1 G0.2.1 dL_law_241 (lv_at hl 0 rfl) ?_
  refine lv_iconst (v := 3) G0.1 G0.2.1 dL_law_243 (by decide) ?_
  refine lv_iadd G0.1 G0.2.1 dL_law_244 ?_
  refine lv_topi (fun x_32 ex_32 => ?_)
  first | have tx_32 := ti_add ex_32 (by omega) (by omega) | skip
  have rg_33 : vp_in x_32 N := ti_in (by omega) (by omega)
  refine va_sld G0.1 G0.2.1 hX hbl hbA hw.2.2.2.1 rg_33 dL_law_245 ?_
  refine lv_topi (fun x_34 ex_34 => ?_)
  have Qx_34 : x_34 = x_9 := by rw [ex_34, ex_9, ex_32, ex_7]
  have qx_34 : x_34.toInt = x_9.toInt := by rw [Qx_34]
  refine lv_aload_n G0.1 G0.2.1 dL_law_246 rfl (lv_at hl 4 rfl) ?_
  refine lv_iload G0.1 G0.2.1 dL_law_247 (lv_at hl 0 rfl) ?_
  refine lv_iconst (v := 4) G0.1 G0.2.1 dL_law_249 (by decide) ?_
  refine lv_iadd G0.1 G0.2.1 dL_law_250 ?_
  refine lv_topi (fun x_35 ex_35 => ?_)
  first | have tx_35 := ti_add ex_35 (by omega) (by omega) | skip
  have rg_36 : vp_in x_35 N := ti_in (by omega) (by omega)
  refine va_sld G0.1 G0.2.1 hX hbl hbA hw.2.2.2.1 rg_36 dL_law_251 ?_
  refine lv_topi (fun x_37 ex_37 => ?_)
  have Qx_37 : x_37 = x_12 := by rw [ex_37, ex_12, ex_35, ex_10]
  have qx_37 : x_37.toInt = x_12.toInt := by rw [Qx_37]
  refine lv_aload_n G0.1 G0.2.1 dL_law_252 rfl (lv_at hl 4 rfl) ?_
  refine lv_iload G0.1 G0.2.1 dL_law_253 (lv_at hl 0 rfl) ?_
  refine lv_iconst (v := 5) G0.1 G0.2.1 dL_law_255 (by decide) ?_
  refine lv_iadd G0.1 G0.2.1 dL_law_256 ?_
  refine lv_topi (fun x_38 ex_38 => ?_)
  first | have tx_38 := ti_add ex_38 (by omega) (by omega) | skip
  have rg_39 : vp_in x_38 N := ti_in (by omega) (by omega)
  refine va_sld G0.1 G0.2.1 hX hbl hbA hw.2.2.2.1 rg_39 dL_law_257 ?_
  refine lv_topi (fun x_40 ex_40 => ?_)
  have Qx_40 : x_40 = x_15 := by rw [ex_40, ex_15, ex_38, ex_13]
  have qx_40 : x_40.toInt = x_15.toInt := by rw [Qx_40]
  have hT1 := hTI.1
  obtain ⟨v_47, v_48, v_49, v_50, v_51, v_52, v_53, v_54, v_55, v_56, v_57, v_58, v_59, v_60, v_61, v_62, v_63, v_64, v_65, v_66, v_67, v_68, hr_46, -⟩ := wg_12 hWF Tu
  have ht10 := fo_ty hWF (wt_11 hG Tx).2.2.2.2.2.1
  refine py_calli hw (va_runV (As := [.int x_28, .int x_31, .int x_34, .int x_37, .int x_40]) (rest := []) G0 (c_X12_feed l E G L_16 f_17 H_18.size u x_28 x_31 x_34 x_37 x_40 gb nb hG hWF Tu (by omega) hMB1) (cwV 5 G0.2.2.2.2 g_L_law_X12_feed_23 rfl rfl rfl (by decide +kernel) ⟨(Nat.le_of_ble_eq_true rfl), (Nat.le_of_ble_eq_true rfl)⟩) (py_preV hw (C := RX12) (T := TX12) (N := 54) rfl hr_46) rfl rfl hl.1 rfl (lv_room (Nat.le_of_ble_eq_true rfl)) dL_law_258 ⟨rm_c (by omega), rm_s (by omega)⟩) (fun r_45 L_41 f_42 H_43 locs hp_44 hw => ?_)
  obtain ⟨en0r_45, hWF, kp_69, fkr_45⟩ := hp_44
  have hGI := hGI.kp hG Tx ht10 (rp_kp hG kp_69 (by decide) (by decide)) kp_69 (by decide)
  have hGM := hGM.kp hG Tu kp_69 fkr_45 (LK.of (by decide)) (by decide)
  have hTY := hTY.rf hG Tx ht10 kp_69 fkr_45 (by decide) (by decide)
  have r9 : f_42 (G.2 x 0) = f_17 (G.2 x 0) := kp_f kp_69 (wt_11 hG Tx).1 (by decide) (by decide) (fun _ => by decide)
  have r38 : f_42 (G.2 (G.2 x 0) 0) = f_17 (G.2 (G.2 x 0) 0) := kp_f kp_69 (wt_8 hG (wt_11 hG Tx).1) (by decide) (by decide) (fun _ => by decide)
  have rx : f_42 x = f_17 x := kp_f kp_69 Tx (by decide) (by decide) (fun _ => by decide)
  have rn := (hy_same rx).1
  have rl := tp_kp r9
  have rm13 : mi f_42 u 13 = mi f_17 u 13 := fk_mi fkr_45 13 (by decide) (by decide)
  rw [Qx_28, Qx_31, Qx_34, Qx_37, Qx_40] at en0r_45
  obtain ⟨gb2, nb2, hTI, hre⟩ := hTI.feed en0r_20 en0r_45 r38 r9 (by omega)
  refine lv_pop G0.1 G0.2.1 dL_law_261 rfl ?_
  refine lv_goto (tgt := 1321) G0.1 G0.2.1 dL_law_262 (by decide) ?_
  refine W.widen (k := C + 8) (n := S + 256) (by omega) (by omega) ?_
  exact kk _ _ _ _ ls ⟨G, gb2, nb2, hG, hWF, Tx, Tu, To, hGI, hGM, hTI, hTY⟩ hw (lv_sub hl [0, 1, 2, 3, 4] rfl)
set_option maxHeartbeats 4000000 in
set_option maxRecDepth 100000 in
theorem lc_1 {p : Program} {e : Env} {s : State} {m : MethodId} {below : List Frame} {meth : Method} {c : Code} (l : Launch) (hst : l.stackTraces = false) {b N : Nat} {xs : Nat → Int32} (C0 : lw_At p s m meth c b N xs) (G0 : CallFix p m c cL_law 7 s #[Value.ref b] w_L_law RL) (hN : N ≤ 3072) {E : py_E} {L : List Nat} {f : py_F} {H : Heap} {locs : List Loc} (hw : py_W E (fun q : Nat => s.heap.size ≤ q) s L f H locs) {x u o : Nat} (hLW : LW E L f x u o) {i : Int32} (hi0 : 0 ≤ i.toInt) (hiN : i.toInt + 6 ≤ N) {C S : Nat} (hC : C + 8 ≤ 601024) (hS : S + 256 ≤ 7293034) {ls : Array Slot} (hl : lv_has ls 7 [(4, .int i), (3, .ref o), (2, .ref u), (1, .ref x), (0, .ref b)]) (kk : ∀ (L1 : List Nat) (f1 : py_F) (H1 : Heap) (locs1 : List Loc) (ls1 : Array Slot), LW E L1 f1 x u o → py_W E (fun q : Nat => s.heap.size ≤ q) s L1 f1 H1 locs1 → lv_has ls1 7 [(4, .int i), (3, .ref o), (2, .ref u), (1, .ref x), (0, .ref b)] → W p l e room_1 s m #[Value.ref b] below meth c H1 locs1 (C + 8) (S + 256) (lw_Z below #[Value.ref b] s) (F0 m 1321 ls1 [])) : W p l e room_1 s m #[Value.ref b] below meth c H locs (C) (S) (lw_Z below #[Value.ref b] s) (F0 m 265 ls []) := by
  obtain ⟨hx, hb, hr, hml, hown, hts, hX, hbl, hlocks, hgv⟩ := id C0
  have hbA : ¬ (fun q : Nat => s.heap.size ≤ q) b := Nat.not_le.mpr hbl
  have kcm1 : (-1 : Int32).toInt = -1 := rfl
  have kc0 : (0 : Int32).toInt = 0 := rfl
  have kc1 : (1 : Int32).toInt = 1 := rfl
  obtain ⟨G, gb, nb, hG, hWF, Tx, Tu, To, hGI, hGM, hTI, hTY⟩ := hLW
  refine lv_aload_n G0.1 G0.2.1 dL_law_265 rfl (lv_at hl 3 rfl) ?_
  refine lv_aload_n G0.1 G0.2.1 dL_law_266 rfl (lv_at hl 4 rfl) ?_
  refine lv_iload G0.1 G0.2.1 dL_law_267 (lv_at hl 0 rfl) ?_
  refine lv_iconst (v := 1) G0.1 G0.2.1 dL_law_269 (by decide) ?_
  refine lv_iadd G0.1 G0.2.1 dL_law_270 ?_
  refine lv_topi (fun x_1 ex_1 => ?_)
  first | have tx_1 := ti_add ex_1 (by omega) (by omega) | skip
  have rg_2 : vp_in x_1 N := ti_in (by omega) (by omega)
  refine va_sld G0.1 G0.2.1 hX hbl hbA hw.2.2.2.1 rg_2 dL_law_271 ?_
  refine lv_topi (fun x_3 ex_3 => ?_)
  have hT1 := hTI.1
  obtain ⟨v_10, v_11, v_12, hr_9, -⟩ := wg_11 hWF Tx
  have ht10 := fo_ty hWF (wt_11 hG Tx).2.2.2.2.2.1
  refine py_calli hw (va_runV (As := [.int x_3]) (rest := []) G0 (c_X11_end l E G L f H.size x x_3 hG hWF Tx hGI) (cwV 1 G0.2.2.2.2 g_L_law_X11_end_24 rfl rfl rfl (by decide +kernel) ⟨(Nat.le_of_ble_eq_true rfl), (Nat.le_of_ble_eq_true rfl)⟩) (py_preV hw (C := RX11) (T := TX11) (N := 16) rfl hr_9) rfl rfl hl.1 rfl (lv_room (Nat.le_of_ble_eq_true rfl)) dL_law_272 ⟨rm_c (by omega), rm_s (by omega)⟩) (fun r_8 L_4 f_5 H_6 locs hp_7 hw => ?_)
  obtain ⟨bbr_8, en0r_8, en1r_8, hWF, kp_13, hGI⟩ := hp_7
  have hGM := hGM.kps hG Tu kp_13 (LK.of (by decide)) (by decide)
  have hTY := hTY.cl hG Tx Tu kp_13 (by decide) (cls_kp hG Tx ht10 kp_13 (by decide)) (hy_same (kp_f kp_13 Tx (by decide) (by decide) (fun _ => by decide))).2
  have eu : f_5 u = f u := kp_f kp_13 Tu (by decide) (by decide) (fun _ => by decide)
  have e38 : f_5 (G.2 (G.2 x 0) 0) = f (G.2 (G.2 x 0) 0) := kp_f kp_13 (wt_8 hG (wt_11 hG Tx).1) (by decide) (by decide) (fun _ => by decide)
  have e40 : f_5 (G.2 u 1) = f (G.2 u 1) := kp_f kp_13 (wt12_1 hG Tu) (by decide) (by decide) (fun _ => by decide)
  have hm2 : mi f_5 u 2 = nb := (mi_kp eu 2).trans hTI.1.2.1
  have hm13 : mi f_5 u 13 = hy_n f x := (mi_kp eu 13).trans hTI.1.2.2.2.2.symm
  have hMB1 := hTI.2.2.1.kp e40
  have ex : hy_n f_5 x = hy_n f x := (hy_same (kp_f kp_13 Tx (by decide) (by decide) (fun _ => by decide))).1
  refine lv_pop G0.1 G0.2.1 dL_law_275 rfl ?_
  refine lv_aload_n G0.1 G0.2.1 dL_law_276 rfl (lv_at hl 2 rfl) ?_
  refine lv_aload_n G0.1 G0.2.1 dL_law_277 rfl (lv_at hl 4 rfl) ?_
  refine lv_iload G0.1 G0.2.1 dL_law_278 (lv_at hl 0 rfl) ?_
  refine lv_iconst (v := 1) G0.1 G0.2.1 dL_law_280 (by decide) ?_
  refine lv_iadd G0.1 G0.2.1 dL_law_281 ?_
  refine lv_topi (fun x_14 ex_14 => ?_)
  first | have tx_14 := ti_add ex_14 (by omega) (by omega) | skip
  have rg_15 : vp_in x_14 N := ti_in (by omega) (by omega)
  refine va_sld G0.1 G0.2.1 hX hbl hbA hw.2.2.2.1 rg_15 dL_law_282 ?_
  refine lv_topi (fun x_16 ex_16 => ?_)
  have Qx_16 : x_16 = x_3 := by rw [ex_16, ex_3, ex_14, ex_1]
  have qx_16 : x_16.toInt = x_3.toInt := by rw [Qx_16]
  obtain ⟨v_23, v_24, v_25, v_26, v_27, v_28, v_29, v_30, v_31, v_32, v_33, v_34, v_35, v_36, v_37, v_38, v_39, v_40, v_41, v_42, v_43, v_44, hr_22, -⟩ := wg_12 hWF Tu
  have ht10 := fo_ty hWF (wt_11 hG Tx).2.2.2.2.2.1
  refine py_calli hw (va_runV (As := [.int x_16]) (rest := []) G0 (c_X12_endV l E G L_4 f_5 H_6.size u x_16 hG hWF Tu) (cwV 1 G0.2.2.2.2 g_L_law_X12_end_28 rfl rfl rfl (by decide +kernel) ⟨(Nat.le_of_ble_eq_true rfl), (Nat.le_of_ble_eq_true rfl)⟩) (py_preV hw (C := RX12) (T := TX12) (N := 54) rfl hr_22) rfl rfl hl.1 rfl (lv_room (Nat.le_of_ble_eq_true rfl)) dL_law_283 ⟨rm_c (by omega), rm_s (by omega)⟩) (fun r_21 L_17 f_18 H_19 locs hp_20 hw => ?_)
  obtain ⟨bbr_21, en0r_21, en1r_21, hWF, kp_45, fkr_21⟩ := hp_20
  have hGI := hGI.kp hG Tx ht10 (rp_kp hG kp_45 (by decide) (by decide)) kp_45 (by decide)
  have hGM := hGM.kp hG Tu kp_45 fkr_21 (LK.of (by decide)) (by decide)
  have hTY := hTY.rf hG Tx ht10 kp_45 fkr_21 (by decide) (by decide)
  have r9 : f_18 (G.2 x 0) = f_5 (G.2 x 0) := kp_f kp_45 (wt_11 hG Tx).1 (by decide) (by decide) (fun _ => by decide)
  have r38 : f_18 (G.2 (G.2 x 0) 0) = f_5 (G.2 (G.2 x 0) 0) := kp_f kp_45 (wt_8 hG (wt_11 hG Tx).1) (by decide) (by decide) (fun _ => by decide)
  have rx : f_18 x = f_5 x := kp_f kp_45 Tx (by decide) (by decide) (fun _ => by decide)
  have rn := (hy_same rx).1
  have rl := tp_kp r9
  have r40 : f_18 (G.2 u 1) = f_5 (G.2 u 1) := kp_f kp_45 (wt12_1 hG Tu) (by decide) (by decide) (fun _ => by decide)
  have rm13 : mi f_18 u 13 = mi f_5 u 13 := fk_mi fkr_21 13 (by decide) (by decide)
  have hre : r_8.toInt = r_21.toInt := by omega
  obtain ⟨nb2, hnb2⟩ : ∃ z : Int, z = mi f_18 u 2 := ⟨_, rfl⟩
  have hTI := hTI.cut (n2 := nb2) (r38.trans e38) (r40.trans e40) (by omega) (by omega) (by omega) (by omega) (by omega)
  refine lv_pop G0.1 G0.2.1 dL_law_286 rfl ?_
  refine lv_goto (tgt := 1321) G0.1 G0.2.1 dL_law_287 (by decide) ?_
  refine W.widen (k := C + 8) (n := S + 256) (by omega) (by omega) ?_
  exact kk _ _ _ _ ls ⟨G, gb, nb2, hG, hWF, Tx, Tu, To, hGI, hGM, hTI, hTY⟩ hw (lv_sub hl [0, 1, 2, 3, 4] rfl)
set_option maxHeartbeats 4000000 in
set_option maxRecDepth 100000 in
theorem lc_2 {p : Program} {e : Env} {s : State} {m : MethodId} {below : List Frame} {meth : Method} {c : Code} (l : Launch) (hst : l.stackTraces = false) {b N : Nat} {xs : Nat → Int32} (C0 : lw_At p s m meth c b N xs) (G0 : CallFix p m c cL_law 7 s #[Value.ref b] w_L_law RL) (hN : N ≤ 3072) {E : py_E} {L : List Nat} {f : py_F} {H : Heap} {locs : List Loc} (hw : py_W E (fun q : Nat => s.heap.size ≤ q) s L f H locs) {x u o : Nat} (hLW : LW E L f x u o) {i : Int32} (hi0 : 0 ≤ i.toInt) (hiN : i.toInt + 6 ≤ N) {C S : Nat} (hC : C + 8 ≤ 601024) (hS : S + 256 ≤ 7293034) {ls : Array Slot} (hl : lv_has ls 7 [(4, .int i), (3, .ref o), (2, .ref u), (1, .ref x), (0, .ref b)]) (kk : ∀ (L1 : List Nat) (f1 : py_F) (H1 : Heap) (locs1 : List Loc) (ls1 : Array Slot), LW E L1 f1 x u o → py_W E (fun q : Nat => s.heap.size ≤ q) s L1 f1 H1 locs1 → lv_has ls1 7 [(4, .int i), (3, .ref o), (2, .ref u), (1, .ref x), (0, .ref b)] → W p l e room_1 s m #[Value.ref b] below meth c H1 locs1 (C + 8) (S + 256) (lw_Z below #[Value.ref b] s) (F0 m 1321 ls1 [])) : W p l e room_1 s m #[Value.ref b] below meth c H locs (C) (S) (lw_Z below #[Value.ref b] s) (F0 m 290 ls []) := by
  obtain ⟨hx, hb, hr, hml, hown, hts, hX, hbl, hlocks, hgv⟩ := id C0
  have hbA : ¬ (fun q : Nat => s.heap.size ≤ q) b := Nat.not_le.mpr hbl
  have kcm1 : (-1 : Int32).toInt = -1 := rfl
  have kc0 : (0 : Int32).toInt = 0 := rfl
  have kc1 : (1 : Int32).toInt = 1 := rfl
  obtain ⟨G, gb, nb, hG, hWF, Tx, Tu, To, hGI, hGM, hTI, hTY⟩ := hLW
  refine lv_aload_n G0.1 G0.2.1 dL_law_290 rfl (lv_at hl 3 rfl) ?_
  refine lv_aload_n G0.1 G0.2.1 dL_law_291 rfl (lv_at hl 4 rfl) ?_
  refine lv_iload G0.1 G0.2.1 dL_law_292 (lv_at hl 0 rfl) ?_
  refine lv_iconst (v := 1) G0.1 G0.2.1 dL_law_294 (by decide) ?_
  refine lv_iadd G0.1 G0.2.1 dL_law_295 ?_
  refine lv_topi (fun x_1 ex_1 => ?_)
  first | have tx_1 := ti_add ex_1 (by omega) (by omega) | skip
  have rg_2 : vp_in x_1 N := ti_in (by omega) (by omega)
  refine va_sld G0.1 G0.2.1 hX hbl hbA hw.2.2.2.1 rg_2 dL_law_296 ?_
  refine lv_topi (fun x_3 ex_3 => ?_)
  have hT1 := hTI.1
  obtain ⟨v_10, v_11, v_12, hr_9, -⟩ := wg_11 hWF Tx
  have ht10 := fo_ty hWF (wt_11 hG Tx).2.2.2.2.2.1
  refine py_calli hw (va_runV (As := [.int x_3]) (rest := []) G0 (c_X11_fault l E G L f H.size x x_3 gb nb hG hWF Tx (by omega) hGI hTI.2.1 hTI.2.2.2) (cwV 1 G0.2.2.2.2 g_L_law_X11_fault_29 rfl rfl rfl (by decide +kernel) ⟨(Nat.le_of_ble_eq_true rfl), (Nat.le_of_ble_eq_true rfl)⟩) (py_preV hw (C := RX11) (T := TX11) (N := 16) rfl hr_9) rfl rfl hl.1 rfl (lv_room (Nat.le_of_ble_eq_true rfl)) dL_law_297 ⟨rm_c (by omega), rm_s (by omega)⟩) (fun r_8 L_4 f_5 H_6 locs hp_7 hw => ?_)
  obtain ⟨en0r_8, en1r_8, en2r_8, en3r_8, en4r_8, hWF, kp_13, hGI⟩ := hp_7
  have hGM := hGM.kps hG Tu kp_13 (LK.of (by decide)) (by decide)
  have hTY := hTY.cl hG Tx Tu kp_13 (by decide) en4r_8 (hy_same (kp_f kp_13 Tx (by decide) (by decide) (fun _ => by decide))).2
  have eu : f_5 u = f u := kp_f kp_13 Tu (by decide) (by decide) (fun _ => by decide)
  have e38 : f_5 (G.2 (G.2 x 0) 0) = f (G.2 (G.2 x 0) 0) := kp_f kp_13 (wt_8 hG (wt_11 hG Tx).1) (by decide) (by decide) (fun _ => by decide)
  have e40 : f_5 (G.2 u 1) = f (G.2 u 1) := kp_f kp_13 (wt12_1 hG Tu) (by decide) (by decide) (fun _ => by decide)
  have hm2 : mi f_5 u 2 = nb := (mi_kp eu 2).trans hTI.1.2.1
  have hm13 : mi f_5 u 13 = hy_n f x := (mi_kp eu 13).trans hTI.1.2.2.2.2.symm
  have hMB1 := hTI.2.2.1.kp e40
  have ex : hy_n f_5 x = hy_n f x := (hy_same (kp_f kp_13 Tx (by decide) (by decide) (fun _ => by decide))).1
  refine lv_pop G0.1 G0.2.1 dL_law_300 rfl ?_
  refine lv_aload_n G0.1 G0.2.1 dL_law_301 rfl (lv_at hl 2 rfl) ?_
  refine lv_aload_n G0.1 G0.2.1 dL_law_302 rfl (lv_at hl 4 rfl) ?_
  refine lv_iload G0.1 G0.2.1 dL_law_303 (lv_at hl 0 rfl) ?_
  refine lv_iconst (v := 1) G0.1 G0.2.1 dL_law_305 (by decide) ?_
  refine lv_iadd G0.1 G0.2.1 dL_law_306 ?_
  refine lv_topi (fun x_14 ex_14 => ?_)
  first | have tx_14 := ti_add ex_14 (by omega) (by omega) | skip
  have rg_15 : vp_in x_14 N := ti_in (by omega) (by omega)
  refine va_sld G0.1 G0.2.1 hX hbl hbA hw.2.2.2.1 rg_15 dL_law_307 ?_
  refine lv_topi (fun x_16 ex_16 => ?_)
  have Qx_16 : x_16 = x_3 := by rw [ex_16, ex_3, ex_14, ex_1]
  have qx_16 : x_16.toInt = x_3.toInt := by rw [Qx_16]
  have hT1 := hTI.1
  obtain ⟨v_23, v_24, v_25, v_26, v_27, v_28, v_29, v_30, v_31, v_32, v_33, v_34, v_35, v_36, v_37, v_38, v_39, v_40, v_41, v_42, v_43, v_44, hr_22, -⟩ := wg_12 hWF Tu
  have ht10 := fo_ty hWF (wt_11 hG Tx).2.2.2.2.2.1
  refine py_calli hw (va_runV (As := [.int x_16]) (rest := []) G0 (c_X12_fault l E G L_4 f_5 H_6.size u x_16 gb nb hG hWF Tu (by omega) hGM hMB1 hTI.2.2.2.nn) (cwV 1 G0.2.2.2.2 g_L_law_X12_fault_33 rfl rfl rfl (by decide +kernel) ⟨(Nat.le_of_ble_eq_true rfl), (Nat.le_of_ble_eq_true rfl)⟩) (py_preV hw (C := RX12) (T := TX12) (N := 54) rfl hr_22) rfl rfl hl.1 rfl (lv_room (Nat.le_of_ble_eq_true rfl)) dL_law_308 ⟨rm_c (by omega), rm_s (by omega)⟩) (fun r_21 L_17 f_18 H_19 locs hp_20 hw => ?_)
  obtain ⟨en0r_21, en1r_21, en2r_21, en3r_21, hWF, kp_45, fkr_21⟩ := hp_20
  have hGI := hGI.kp hG Tx ht10 (rp_kp hG kp_45 (by decide) (by decide)) kp_45 (by decide)
  have hGM := en0r_21
  have hTY := hTY.rf hG Tx ht10 kp_45 fkr_21 (by decide) (by decide)
  have r9 : f_18 (G.2 x 0) = f_5 (G.2 x 0) := kp_f kp_45 (wt_11 hG Tx).1 (by decide) (by decide) (fun _ => by decide)
  have r38 : f_18 (G.2 (G.2 x 0) 0) = f_5 (G.2 (G.2 x 0) 0) := kp_f kp_45 (wt_8 hG (wt_11 hG Tx).1) (by decide) (by decide) (fun _ => by decide)
  have rx : f_18 x = f_5 x := kp_f kp_45 Tx (by decide) (by decide) (fun _ => by decide)
  have rn := (hy_same rx).1
  have rl := tp_kp r9
  have r40 : f_18 (G.2 u 1) = f_5 (G.2 u 1) := kp_f kp_45 (wt12_1 hG Tu) (by decide) (by decide) (fun _ => by decide)
  have rm13 : mi f_18 u 13 = mi f_5 u 13 := fk_mi fkr_21 13 (by decide) (by decide)
  have hre : r_8.toInt = r_21.toInt := flt_eq en1r_8 en2r_8 en3r_8 en1r_21 en2r_21 en3r_21 qx_16
  have rm2 : mi f_18 u 2 = mi f_5 u 2 := fk_mi fkr_21 2 (by decide) (by decide)
  have hTI := hTI.cut (n2 := nb) (r38.trans e38) (r40.trans e40) (by omega) (by omega) (by omega) (by omega) (by omega)
  refine lv_pop G0.1 G0.2.1 dL_law_311 rfl ?_
  refine lv_goto (tgt := 1321) G0.1 G0.2.1 dL_law_312 (by decide) ?_
  refine W.widen (k := C + 8) (n := S + 256) (by omega) (by omega) ?_
  exact kk _ _ _ _ ls ⟨G, gb, nb, hG, hWF, Tx, Tu, To, hGI, hGM, hTI, hTY⟩ hw (lv_sub hl [0, 1, 2, 3, 4] rfl)
set_option maxHeartbeats 4000000 in
set_option maxRecDepth 100000 in
theorem lc_3 {p : Program} {e : Env} {s : State} {m : MethodId} {below : List Frame} {meth : Method} {c : Code} (l : Launch) (hst : l.stackTraces = false) {b N : Nat} {xs : Nat → Int32} (C0 : lw_At p s m meth c b N xs) (G0 : CallFix p m c cL_law 7 s #[Value.ref b] w_L_law RL) (hN : N ≤ 3072) {E : py_E} {L : List Nat} {f : py_F} {H : Heap} {locs : List Loc} (hw : py_W E (fun q : Nat => s.heap.size ≤ q) s L f H locs) {x u o : Nat} (hLW : LW E L f x u o) {i : Int32} (hi0 : 0 ≤ i.toInt) (hiN : i.toInt + 6 ≤ N) {C S : Nat} (hC : C + 8 ≤ 601024) (hS : S + 256 ≤ 7293034) {ls : Array Slot} (hl : lv_has ls 7 [(4, .int i), (3, .ref o), (2, .ref u), (1, .ref x), (0, .ref b)]) (kk : ∀ (L1 : List Nat) (f1 : py_F) (H1 : Heap) (locs1 : List Loc) (ls1 : Array Slot), LW E L1 f1 x u o → py_W E (fun q : Nat => s.heap.size ≤ q) s L1 f1 H1 locs1 → lv_has ls1 7 [(4, .int i), (3, .ref o), (2, .ref u), (1, .ref x), (0, .ref b)] → W p l e room_1 s m #[Value.ref b] below meth c H1 locs1 (C + 8) (S + 256) (lw_Z below #[Value.ref b] s) (F0 m 1321 ls1 [])) : W p l e room_1 s m #[Value.ref b] below meth c H locs (C) (S) (lw_Z below #[Value.ref b] s) (F0 m 315 ls []) := by
  obtain ⟨hx, hb, hr, hml, hown, hts, hX, hbl, hlocks, hgv⟩ := id C0
  have hbA : ¬ (fun q : Nat => s.heap.size ≤ q) b := Nat.not_le.mpr hbl
  have kcm1 : (-1 : Int32).toInt = -1 := rfl
  have kc0 : (0 : Int32).toInt = 0 := rfl
  have kc1 : (1 : Int32).toInt = 1 := rfl
  obtain ⟨G, gb, nb, hG, hWF, Tx, Tu, To, hGI, hGM, hTI, hTY⟩ := hLW
  refine lv_aload_n G0.1 G0.2.1 dL_law_315 rfl (lv_at hl 3 rfl) ?_
  refine lv_aload_n G0.1 G0.2.1 dL_law_316 rfl (lv_at hl 4 rfl) ?_
  refine lv_iload G0.1 G0.2.1 dL_law_317 (lv_at hl 0 rfl) ?_
  refine lv_iconst (v := 1) G0.1 G0.2.1 dL_law_319 (by decide) ?_
  refine lv_iadd G0.1 G0.2.1 dL_law_320 ?_
  refine lv_topi (fun x_1 ex_1 => ?_)
  first | have tx_1 := ti_add ex_1 (by omega) (by omega) | skip
  have rg_2 : vp_in x_1 N := ti_in (by omega) (by omega)
  refine va_sld G0.1 G0.2.1 hX hbl hbA hw.2.2.2.1 rg_2 dL_law_321 ?_
  refine lv_topi (fun x_3 ex_3 => ?_)
  have hT1 := hTI.1
  obtain ⟨v_10, v_11, v_12, hr_9, -⟩ := wg_11 hWF Tx
  have ht10 := fo_ty hWF (wt_11 hG Tx).2.2.2.2.2.1
  refine py_calli hw (va_runV (As := [.int x_3]) (rest := []) G0 (c_X11_text l E G L f H.size x x_3 gb nb hG hWF Tx (by omega) hGI hTI.2.1 hTI.2.2.2) (cwV 1 G0.2.2.2.2 g_L_law_X11_text_34 rfl rfl rfl (by decide +kernel) ⟨(Nat.le_of_ble_eq_true rfl), (Nat.le_of_ble_eq_true rfl)⟩) (py_preV hw (C := RX11) (T := TX11) (N := 16) rfl hr_9) rfl rfl hl.1 rfl (lv_room (Nat.le_of_ble_eq_true rfl)) dL_law_322 ⟨rm_c (by omega), rm_s (by omega)⟩) (fun r_8 L_4 f_5 H_6 locs hp_7 hw => ?_)
  obtain ⟨G1, gx, hG1, hWF1, hGI, kp_13, hTXc, hTYc⟩ := hp_7
  have eu : f_5 u = f u := kp_f kp_13 Tu (by decide) (by decide) (fun _ => by decide)
  have e38 : f_5 (G.2 (G.2 x 0) 0) = f (G.2 (G.2 x 0) 0) := kp_f kp_13 (wt_8 hG (wt_11 hG Tx).1) (by decide) (by decide) (fun _ => by decide)
  have e40 : f_5 (G.2 u 1) = f (G.2 u 1) := kp_f kp_13 (wt12_1 hG Tu) (by decide) (by decide) (fun _ => by decide)
  have hm2 : mi f_5 u 2 = nb := (mi_kp eu 2).trans hTI.1.2.1
  have hm13 : mi f_5 u 13 = hy_n f x := (mi_kp eu 13).trans hTI.1.2.2.2.2.symm
  have hMB1 := hTI.2.2.1.kp e40
  obtain ⟨y0, y1, y2, y3, y4⟩ := hTY
  have yu : f_5 u = f u := kp_f kp_13 Tu (by decide) (by decide) (fun _ => by decide)
  have yu25 := mi_kp yu 25
  have yu29 := mi_kp yu 29
  have yu51 := mi_kp yu 51
  have yu53 := mi_kp yu 53
  have hGM := (hGM.kps hG Tu kp_13 (LK.of (by decide)) (by decide)).gx Tu gx
  have a9 := (wt_11 hG Tx).1
  have a0 := (gx x (by rw [Tx]; decide)).2 0
  have a1 := (gx (G.2 x 0) (by rw [a9]; decide)).2 0
  have a2 := (gx u (by rw [Tu]; decide)).2 1
  have hTI := hTI.gx gx hG Tx Tu
  have a5 := (gx x (by rw [Tx]; decide)).2 5
  have a7 := (gx x (by rw [Tx]; decide)).2 7
  rw [← a1, ← a0] at e38
  rw [← a2] at e40 hMB1
  rw [← a0] at hTXc
  have Tx := gx.ty Tx (by decide)
  have Tu := gx.ty Tu (by decide)
  have To := gx.ty To (by decide)
  have hG := hG1
  have hWF := hWF1
  refine lv_pop G0.1 G0.2.1 dL_law_325 rfl ?_
  refine lv_aload_n G0.1 G0.2.1 dL_law_326 rfl (lv_at hl 2 rfl) ?_
  refine lv_aload_n G0.1 G0.2.1 dL_law_327 rfl (lv_at hl 4 rfl) ?_
  refine lv_iload G0.1 G0.2.1 dL_law_328 (lv_at hl 0 rfl) ?_
  refine lv_iconst (v := 1) G0.1 G0.2.1 dL_law_330 (by decide) ?_
  refine lv_iadd G0.1 G0.2.1 dL_law_331 ?_
  refine lv_topi (fun x_14 ex_14 => ?_)
  first | have tx_14 := ti_add ex_14 (by omega) (by omega) | skip
  have rg_15 : vp_in x_14 N := ti_in (by omega) (by omega)
  refine va_sld G0.1 G0.2.1 hX hbl hbA hw.2.2.2.1 rg_15 dL_law_332 ?_
  refine lv_topi (fun x_16 ex_16 => ?_)
  have Qx_16 : x_16 = x_3 := by rw [ex_16, ex_3, ex_14, ex_1]
  have qx_16 : x_16.toInt = x_3.toInt := by rw [Qx_16]
  have hT1 := hTI.1
  obtain ⟨v_23, v_24, v_25, v_26, v_27, v_28, v_29, v_30, v_31, v_32, v_33, v_34, v_35, v_36, v_37, v_38, v_39, v_40, v_41, v_42, v_43, v_44, hr_22, -⟩ := wg_12 hWF Tu
  have ht10 := fo_ty hWF (wt_11 hG Tx).2.2.2.2.2.1
  refine py_calli hw (va_runV (As := [.int x_16]) (rest := []) G0 (c_X12_text l E G1 L_4 f_5 H_6.size u x_16 gb nb hG hWF Tu (by omega) hGM hMB1 hTI.2.2.2.nn) (cwV 1 G0.2.2.2.2 g_L_law_X12_text_37 rfl rfl rfl (by decide +kernel) ⟨(Nat.le_of_ble_eq_true rfl), (Nat.le_of_ble_eq_true rfl)⟩) (py_preV hw (C := RX12) (T := TX12) (N := 54) rfl hr_22) rfl rfl hl.1 rfl (lv_room (Nat.le_of_ble_eq_true rfl)) dL_law_333 ⟨rm_c (by omega), rm_s (by omega)⟩) (fun r_21 L_17 f_18 H_19 locs hp_20 hw => ?_)
  obtain ⟨en0r_21, en1r_21, en2r_21, hWF, kp_45, fkr_21⟩ := hp_20
  have hGI := hGI.kp hG Tx ht10 (rp_kp hG kp_45 (by decide) (by decide)) kp_45 (by decide)
  have hGM := en0r_21
  have cy := cls_kp hG Tx ht10 kp_45 (by decide)
  have cm := (hy_same (kp_f kp_45 Tx (by decide) (by decide) (fun _ => by decide))).2
  rw [a5, a7] at cy
  have yk51 : mi f_18 u 51 = mi f_5 u 51 := fk_mi fkr_21 51 (by decide) (by decide)
  have hreY : r_8.toInt = r_21.toInt := (hTI.text hTXc en1r_21 qx_16 eu e38 e40 (kp_f kp_45 (wt_8 hG (wt_11 hG Tx).1) (by decide) (by decide) (fun _ => by decide)) (kp_f kp_45 (wt12_1 hG Tu) (by decide) (by decide) (fun _ => by decide)) (kp_f kp_45 (wt_11 hG Tx).1 (by decide) (by decide) (fun _ => by decide)) (kp_f kp_45 Tx (by decide) (by decide) (fun _ => by decide))).elim (fun _ h => h.2)
  have hTY : TY G1 f_18 x u := by
    unfold TY
    rw [a5, a7]
    exact ⟨by omega, by omega, by omega, by omega, by omega⟩
  have r9 : f_18 (G1.2 x 0) = f_5 (G1.2 x 0) := kp_f kp_45 (wt_11 hG Tx).1 (by decide) (by decide) (fun _ => by decide)
  have r38 : f_18 (G1.2 (G1.2 x 0) 0) = f_5 (G1.2 (G1.2 x 0) 0) := kp_f kp_45 (wt_8 hG (wt_11 hG Tx).1) (by decide) (by decide) (fun _ => by decide)
  have rx : f_18 x = f_5 x := kp_f kp_45 Tx (by decide) (by decide) (fun _ => by decide)
  have rn := (hy_same rx).1
  have rl := tp_kp r9
  have r40 : f_18 (G1.2 u 1) = f_5 (G1.2 u 1) := kp_f kp_45 (wt12_1 hG Tu) (by decide) (by decide) (fun _ => by decide)
  obtain ⟨nb2, hTI, hre⟩ := hTI.text hTXc en1r_21 qx_16 eu e38 e40 r38 r40 r9 rx
  refine lv_pop G0.1 G0.2.1 dL_law_336 rfl ?_
  refine lv_goto (tgt := 1321) G0.1 G0.2.1 dL_law_337 (by decide) ?_
  refine W.widen (k := C + 8) (n := S + 256) (by omega) (by omega) ?_
  exact kk _ _ _ _ ls ⟨G1, gb, nb2, hG, hWF, Tx, Tu, To, hGI, hGM, hTI, hTY⟩ hw (lv_sub hl [0, 1, 2, 3, 4] rfl)
set_option maxHeartbeats 4000000 in
set_option maxRecDepth 100000 in
theorem lc_4 {p : Program} {e : Env} {s : State} {m : MethodId} {below : List Frame} {meth : Method} {c : Code} (l : Launch) (hst : l.stackTraces = false) {b N : Nat} {xs : Nat → Int32} (C0 : lw_At p s m meth c b N xs) (G0 : CallFix p m c cL_law 7 s #[Value.ref b] w_L_law RL) (hN : N ≤ 3072) {E : py_E} {L : List Nat} {f : py_F} {H : Heap} {locs : List Loc} (hw : py_W E (fun q : Nat => s.heap.size ≤ q) s L f H locs) {x u o : Nat} (hLW : LW E L f x u o) {i : Int32} (hi0 : 0 ≤ i.toInt) (hiN : i.toInt + 6 ≤ N) {C S : Nat} (hC : C + 8 ≤ 601024) (hS : S + 256 ≤ 7293034) {ls : Array Slot} (hl : lv_has ls 7 [(4, .int i), (3, .ref o), (2, .ref u), (1, .ref x), (0, .ref b)]) (kk : ∀ (L1 : List Nat) (f1 : py_F) (H1 : Heap) (locs1 : List Loc) (ls1 : Array Slot), LW E L1 f1 x u o → py_W E (fun q : Nat => s.heap.size ≤ q) s L1 f1 H1 locs1 → lv_has ls1 7 [(4, .int i), (3, .ref o), (2, .ref u), (1, .ref x), (0, .ref b)] → W p l e room_1 s m #[Value.ref b] below meth c H1 locs1 (C + 8) (S + 256) (lw_Z below #[Value.ref b] s) (F0 m 1321 ls1 [])) : W p l e room_1 s m #[Value.ref b] below meth c H locs (C) (S) (lw_Z below #[Value.ref b] s) (F0 m 340 ls []) := by
  obtain ⟨hx, hb, hr, hml, hown, hts, hX, hbl, hlocks, hgv⟩ := id C0
  have hbA : ¬ (fun q : Nat => s.heap.size ≤ q) b := Nat.not_le.mpr hbl
  have kcm1 : (-1 : Int32).toInt = -1 := rfl
  have kc0 : (0 : Int32).toInt = 0 := rfl
  have kc1 : (1 : Int32).toInt = 1 := rfl
  have kc2 : (2 : Int32).toInt = 2 := rfl
  obtain ⟨G, gb, nb, hG, hWF, Tx, Tu, To, hGI, hGM, hTI, hTY⟩ := hLW
  refine lv_aload_n G0.1 G0.2.1 dL_law_340 rfl (lv_at hl 3 rfl) ?_
  refine lv_aload_n G0.1 G0.2.1 dL_law_341 rfl (lv_at hl 4 rfl) ?_
  refine lv_iload G0.1 G0.2.1 dL_law_342 (lv_at hl 0 rfl) ?_
  refine lv_iconst (v := 1) G0.1 G0.2.1 dL_law_344 (by decide) ?_
  refine lv_iadd G0.1 G0.2.1 dL_law_345 ?_
  refine lv_topi (fun x_1 ex_1 => ?_)
  first | have tx_1 := ti_add ex_1 (by omega) (by omega) | skip
  have rg_2 : vp_in x_1 N := ti_in (by omega) (by omega)
  refine va_sld G0.1 G0.2.1 hX hbl hbA hw.2.2.2.1 rg_2 dL_law_346 ?_
  refine lv_topi (fun x_3 ex_3 => ?_)
  refine lv_aload_n G0.1 G0.2.1 dL_law_347 rfl (lv_at hl 4 rfl) ?_
  refine lv_iload G0.1 G0.2.1 dL_law_348 (lv_at hl 0 rfl) ?_
  refine lv_iconst (v := 2) G0.1 G0.2.1 dL_law_350 (by decide) ?_
  refine lv_iadd G0.1 G0.2.1 dL_law_351 ?_
  refine lv_topi (fun x_4 ex_4 => ?_)
  first | have tx_4 := ti_add ex_4 (by omega) (by omega) | skip
  have rg_5 : vp_in x_4 N := ti_in (by omega) (by omega)
  refine va_sld G0.1 G0.2.1 hX hbl hbA hw.2.2.2.1 rg_5 dL_law_352 ?_
  refine lv_topi (fun x_6 ex_6 => ?_)
  refine lv_aload_n G0.1 G0.2.1 dL_law_353 rfl (lv_at hl 1 rfl) ?_
  refine py_calli hw (vx_runSW (As := [.ref x, .int x_3, .int x_6, .ref o]) (rest := []) G0 (c_L_level l hst E G L f H.size x x_3 x_6 o hG hWF Tx To) (vx_cwSW 4 G0.2.2.2.2 g_L_law_L_level rfl rfl rfl (by decide +kernel) ⟨(Nat.le_of_ble_eq_true rfl), (Nat.le_of_ble_eq_true rfl)⟩) (py_preS hw) rfl rfl hl.1 rfl (lv_room (Nat.le_of_ble_eq_true rfl)) dL_law_354 ⟨rm_c (by omega), rm_s (by omega)⟩) (fun r_11 L_7 f_8 H_9 locs hp_10 hw => ?_)
  have ht10 := fo_ty hWF (wt_11 hG Tx).2.2.2.2.2.1
  obtain ⟨hWF, kp_12⟩ := hp_10
  have hGI := hGI.kp hG Tx ht10 (rp_kp hG kp_12 (by decide) (by decide)) kp_12 (by decide)
  have hGM := hGM.kps hG Tu kp_12 (LK.of (by decide)) (by decide)
  have hTI := hTI.clx hG Tx Tu kp_12 (by decide)
  have hTY := hTY.cl hG Tx Tu kp_12 (by decide) (cls_kp hG Tx ht10 kp_12 (by decide)) (hy_same (kp_f kp_12 Tx (by decide) (by decide) (fun _ => by decide))).2
  refine lv_istore (lv' := [(5, .int r_11), (4, .int i), (3, .ref o), (2, .ref u), (1, .ref x), (0, .ref b)]) G0.1 G0.2.1 dL_law_357 hl (by decide) rfl (fun ls hl => ?_)
  refine lv_aload_n G0.1 G0.2.1 dL_law_359 rfl (lv_at hl 3 rfl) ?_
  refine lv_aload_n G0.1 G0.2.1 dL_law_360 rfl (lv_at hl 5 rfl) ?_
  refine lv_iload G0.1 G0.2.1 dL_law_361 (lv_at hl 1 rfl) ?_
  refine lv_iconst (v := 1) G0.1 G0.2.1 dL_law_363 (by decide) ?_
  refine lv_iadd G0.1 G0.2.1 dL_law_364 ?_
  refine lv_topi (fun x_13 ex_13 => ?_)
  first | have tx_13 := ti_add ex_13 (by omega) (by omega) | skip
  have rg_14 : vp_in x_13 N := ti_in (by omega) (by omega)
  refine va_sld G0.1 G0.2.1 hX hbl hbA hw.2.2.2.1 rg_14 dL_law_365 ?_
  refine lv_topi (fun x_15 ex_15 => ?_)
  have Qx_15 : x_15 = x_3 := by rw [ex_15, ex_3, ex_13, ex_1]
  have qx_15 : x_15.toInt = x_3.toInt := by rw [Qx_15]
  refine lv_aload_n G0.1 G0.2.1 dL_law_366 rfl (lv_at hl 5 rfl) ?_
  refine lv_iload G0.1 G0.2.1 dL_law_367 (lv_at hl 1 rfl) ?_
  refine lv_iconst (v := 2) G0.1 G0.2.1 dL_law_369 (by decide) ?_
  refine lv_iadd G0.1 G0.2.1 dL_law_370 ?_
  refine lv_topi (fun x_16 ex_16 => ?_)
  first | have tx_16 := ti_add ex_16 (by omega) (by omega) | skip
  have rg_17 : vp_in x_16 N := ti_in (by omega) (by omega)
  refine va_sld G0.1 G0.2.1 hX hbl hbA hw.2.2.2.1 rg_17 dL_law_371 ?_
  refine lv_topi (fun x_18 ex_18 => ?_)
  have Qx_18 : x_18 = x_6 := by rw [ex_18, ex_6, ex_16, ex_4]
  have qx_18 : x_18.toInt = x_6.toInt := by rw [Qx_18]
  obtain ⟨v_25, v_26, v_27, v_28, v_29, v_30, v_31, v_32, v_33, v_34, v_35, v_36, v_37, v_38, v_39, v_40, v_41, v_42, v_43, v_44, v_45, v_46, hr_24, -⟩ := wg_12 hWF Tu
  have ht10 := fo_ty hWF (wt_11 hG Tx).2.2.2.2.2.1
  refine py_calli hw (va_runV (As := [.int x_15, .int x_18]) (rest := []) G0 (c_X12_level l E G L_7 f_8 H_9.size u x_15 x_18 hG hWF Tu) (cwV 2 G0.2.2.2.2 g_L_law_X12_level_43 rfl rfl rfl (by decide +kernel) ⟨(Nat.le_of_ble_eq_true rfl), (Nat.le_of_ble_eq_true rfl)⟩) (py_preV hw (C := RX12) (T := TX12) (N := 54) rfl hr_24) rfl rfl hl.1 rfl (lv_room (Nat.le_of_ble_eq_true rfl)) dL_law_372 ⟨rm_c (by omega), rm_s (by omega)⟩) (fun r_23 L_19 f_20 H_21 locs hp_22 hw => ?_)
  obtain ⟨hWF, kp_47, fkr_23⟩ := hp_22
  have hGI := hGI.kp hG Tx ht10 (rp_kp hG kp_47 (by decide) (by decide)) kp_47 (by decide)
  have hGM := hGM.kp hG Tu kp_47 fkr_23 (LK.of (by decide)) (by decide)
  have hTY := hTY.rf hG Tx ht10 kp_47 fkr_23 (by decide) (by decide)
  have hTI := hTI.rf hG Tx Tu kp_47 fkr_23 (by decide) (by decide)
  refine lv_istore (lv' := [(6, .int r_23), (5, .int r_11), (4, .int i), (3, .ref o), (2, .ref u), (1, .ref x), (0, .ref b)]) G0.1 G0.2.1 dL_law_375 hl (by decide) rfl (fun ls hl => ?_)
  refine lv_goto (tgt := 1321) G0.1 G0.2.1 dL_law_377 (by decide) ?_
  refine W.widen (k := C + 8) (n := S + 256) (by omega) (by omega) ?_
  exact kk _ _ _ _ ls ⟨G, gb, nb, hG, hWF, Tx, Tu, To, hGI, hGM, hTI, hTY⟩ hw (lv_sub hl [2, 3, 4, 5, 6] rfl)
set_option maxHeartbeats 4000000 in
set_option maxRecDepth 100000 in
theorem lc_5 {p : Program} {e : Env} {s : State} {m : MethodId} {below : List Frame} {meth : Method} {c : Code} (l : Launch) (hst : l.stackTraces = false) {b N : Nat} {xs : Nat → Int32} (C0 : lw_At p s m meth c b N xs) (G0 : CallFix p m c cL_law 7 s #[Value.ref b] w_L_law RL) (hN : N ≤ 3072) {E : py_E} {L : List Nat} {f : py_F} {H : Heap} {locs : List Loc} (hw : py_W E (fun q : Nat => s.heap.size ≤ q) s L f H locs) {x u o : Nat} (hLW : LW E L f x u o) {i : Int32} (hi0 : 0 ≤ i.toInt) (hiN : i.toInt + 6 ≤ N) {C S : Nat} (hC : C + 8 ≤ 601024) (hS : S + 256 ≤ 7293034) {ls : Array Slot} (hl : lv_has ls 7 [(4, .int i), (3, .ref o), (2, .ref u), (1, .ref x), (0, .ref b)]) (kk : ∀ (L1 : List Nat) (f1 : py_F) (H1 : Heap) (locs1 : List Loc) (ls1 : Array Slot), LW E L1 f1 x u o → py_W E (fun q : Nat => s.heap.size ≤ q) s L1 f1 H1 locs1 → lv_has ls1 7 [(4, .int i), (3, .ref o), (2, .ref u), (1, .ref x), (0, .ref b)] → W p l e room_1 s m #[Value.ref b] below meth c H1 locs1 (C + 8) (S + 256) (lw_Z below #[Value.ref b] s) (F0 m 1321 ls1 [])) : W p l e room_1 s m #[Value.ref b] below meth c H locs (C) (S) (lw_Z below #[Value.ref b] s) (F0 m 380 ls []) := by
  obtain ⟨hx, hb, hr, hml, hown, hts, hX, hbl, hlocks, hgv⟩ := id C0
  have hbA : ¬ (fun q : Nat => s.heap.size ≤ q) b := Nat.not_le.mpr hbl
  have kcm1 : (-1 : Int32).toInt = -1 := rfl
  have kc0 : (0 : Int32).toInt = 0 := rfl
  have kc1 : (1 : Int32).toInt = 1 := rfl
  have kc2 : (2 : Int32).toInt = 2 := rfl
  obtain ⟨G, gb, nb, hG, hWF, Tx, Tu, To, hGI, hGM, hTI, hTY⟩ := hLW
  refine lv_aload_n G0.1 G0.2.1 dL_law_380 rfl (lv_at hl 3 rfl) ?_
  refine lv_aload_n G0.1 G0.2.1 dL_law_381 rfl (lv_at hl 4 rfl) ?_
  refine lv_iload G0.1 G0.2.1 dL_law_382 (lv_at hl 0 rfl) ?_
  refine lv_iconst (v := 1) G0.1 G0.2.1 dL_law_384 (by decide) ?_
  refine lv_iadd G0.1 G0.2.1 dL_law_385 ?_
  refine lv_topi (fun x_1 ex_1 => ?_)
  first | have tx_1 := ti_add ex_1 (by omega) (by omega) | skip
  have rg_2 : vp_in x_1 N := ti_in (by omega) (by omega)
  refine va_sld G0.1 G0.2.1 hX hbl hbA hw.2.2.2.1 rg_2 dL_law_386 ?_
  refine lv_topi (fun x_3 ex_3 => ?_)
  refine lv_aload_n G0.1 G0.2.1 dL_law_387 rfl (lv_at hl 4 rfl) ?_
  refine lv_iload G0.1 G0.2.1 dL_law_388 (lv_at hl 0 rfl) ?_
  refine lv_iconst (v := 2) G0.1 G0.2.1 dL_law_390 (by decide) ?_
  refine lv_iadd G0.1 G0.2.1 dL_law_391 ?_
  refine lv_topi (fun x_4 ex_4 => ?_)
  first | have tx_4 := ti_add ex_4 (by omega) (by omega) | skip
  have rg_5 : vp_in x_4 N := ti_in (by omega) (by omega)
  refine va_sld G0.1 G0.2.1 hX hbl hbA hw.2.2.2.1 rg_5 dL_law_392 ?_
  refine lv_topi (fun x_6 ex_6 => ?_)
  obtain ⟨v_13, v_14, v_15, hr_12, -⟩ := wg_11 hWF Tx
  have ht10 := fo_ty hWF (wt_11 hG Tx).2.2.2.2.2.1
  refine py_calli hw (va_runV (As := [.int x_3, .int x_6]) (rest := []) G0 (c_X11_family l E G L f H.size x x_3 x_6 hG hWF Tx) (cwV 2 G0.2.2.2.2 g_L_law_X11_family_44 rfl rfl rfl (by decide +kernel) ⟨(Nat.le_of_ble_eq_true rfl), (Nat.le_of_ble_eq_true rfl)⟩) (py_preV hw (C := RX11) (T := TX11) (N := 16) rfl hr_12) rfl rfl hl.1 rfl (lv_room (Nat.le_of_ble_eq_true rfl)) dL_law_393 ⟨rm_c (by omega), rm_s (by omega)⟩) (fun r_11 L_7 f_8 H_9 locs hp_10 hw => ?_)
  obtain ⟨rfl, rfl⟩ := hp_10
  refine lv_pop G0.1 G0.2.1 dL_law_396 rfl ?_
  refine lv_aload_n G0.1 G0.2.1 dL_law_397 rfl (lv_at hl 2 rfl) ?_
  refine lv_aload_n G0.1 G0.2.1 dL_law_398 rfl (lv_at hl 4 rfl) ?_
  refine lv_iload G0.1 G0.2.1 dL_law_399 (lv_at hl 0 rfl) ?_
  refine lv_iconst (v := 1) G0.1 G0.2.1 dL_law_401 (by decide) ?_
  refine lv_iadd G0.1 G0.2.1 dL_law_402 ?_
  refine lv_topi (fun x_16 ex_16 => ?_)
  first | have tx_16 := ti_add ex_16 (by omega) (by omega) | skip
  have rg_17 : vp_in x_16 N := ti_in (by omega) (by omega)
  refine va_sld G0.1 G0.2.1 hX hbl hbA hw.2.2.2.1 rg_17 dL_law_403 ?_
  refine lv_topi (fun x_18 ex_18 => ?_)
  have Qx_18 : x_18 = x_3 := by rw [ex_18, ex_3, ex_16, ex_1]
  have qx_18 : x_18.toInt = x_3.toInt := by rw [Qx_18]
  refine lv_aload_n G0.1 G0.2.1 dL_law_404 rfl (lv_at hl 4 rfl) ?_
  refine lv_iload G0.1 G0.2.1 dL_law_405 (lv_at hl 0 rfl) ?_
  refine lv_iconst (v := 2) G0.1 G0.2.1 dL_law_407 (by decide) ?_
  refine lv_iadd G0.1 G0.2.1 dL_law_408 ?_
  refine lv_topi (fun x_19 ex_19 => ?_)
  first | have tx_19 := ti_add ex_19 (by omega) (by omega) | skip
  have rg_20 : vp_in x_19 N := ti_in (by omega) (by omega)
  refine va_sld G0.1 G0.2.1 hX hbl hbA hw.2.2.2.1 rg_20 dL_law_409 ?_
  refine lv_topi (fun x_21 ex_21 => ?_)
  have Qx_21 : x_21 = x_6 := by rw [ex_21, ex_6, ex_19, ex_4]
  have qx_21 : x_21.toInt = x_6.toInt := by rw [Qx_21]
  obtain ⟨v_28, v_29, v_30, v_31, v_32, v_33, v_34, v_35, v_36, v_37, v_38, v_39, v_40, v_41, v_42, v_43, v_44, v_45, v_46, v_47, v_48, v_49, hr_27, -⟩ := wg_12 hWF Tu
  have ht10 := fo_ty hWF (wt_11 hG Tx).2.2.2.2.2.1
  refine py_calli hw (va_runV (As := [.int x_18, .int x_21]) (rest := []) G0 (c_X12_family l E G L f H_9.size u x_18 x_21 hG hWF Tu) (cwV 2 G0.2.2.2.2 g_L_law_X12_family_47 rfl rfl rfl (by decide +kernel) ⟨(Nat.le_of_ble_eq_true rfl), (Nat.le_of_ble_eq_true rfl)⟩) (py_preV hw (C := RX12) (T := TX12) (N := 54) rfl hr_27) rfl rfl hl.1 rfl (lv_room (Nat.le_of_ble_eq_true rfl)) dL_law_410 ⟨rm_c (by omega), rm_s (by omega)⟩) (fun r_26 L_22 f_23 H_24 locs hp_25 hw => ?_)
  obtain ⟨rfl, rfl⟩ := hp_25
  refine lv_pop G0.1 G0.2.1 dL_law_413 rfl ?_
  refine lv_goto (tgt := 1321) G0.1 G0.2.1 dL_law_414 (by decide) ?_
  refine W.widen (k := C + 8) (n := S + 256) (by omega) (by omega) ?_
  exact kk _ _ _ _ ls ⟨G, gb, nb, hG, hWF, Tx, Tu, To, hGI, hGM, hTI, hTY⟩ hw (lv_sub hl [0, 1, 2, 3, 4] rfl)
set_option maxHeartbeats 4000000 in
set_option maxRecDepth 100000 in
theorem lc_6 {p : Program} {e : Env} {s : State} {m : MethodId} {below : List Frame} {meth : Method} {c : Code} (l : Launch) (hst : l.stackTraces = false) {b N : Nat} {xs : Nat → Int32} (C0 : lw_At p s m meth c b N xs) (G0 : CallFix p m c cL_law 7 s #[Value.ref b] w_L_law RL) (hN : N ≤ 3072) {E : py_E} {L : List Nat} {f : py_F} {H : Heap} {locs : List Loc} (hw : py_W E (fun q : Nat => s.heap.size ≤ q) s L f H locs) {x u o : Nat} (hLW : LW E L f x u o) {i : Int32} (hi0 : 0 ≤ i.toInt) (hiN : i.toInt + 6 ≤ N) {C S : Nat} (hC : C + 8 ≤ 601024) (hS : S + 256 ≤ 7293034) {ls : Array Slot} (hl : lv_has ls 7 [(4, .int i), (3, .ref o), (2, .ref u), (1, .ref x), (0, .ref b)]) (kk : ∀ (L1 : List Nat) (f1 : py_F) (H1 : Heap) (locs1 : List Loc) (ls1 : Array Slot), LW E L1 f1 x u o → py_W E (fun q : Nat => s.heap.size ≤ q) s L1 f1 H1 locs1 → lv_has ls1 7 [(4, .int i), (3, .ref o), (2, .ref u), (1, .ref x), (0, .ref b)] → W p l e room_1 s m #[Value.ref b] below meth c H1 locs1 (C + 8) (S + 256) (lw_Z below #[Value.ref b] s) (F0 m 1321 ls1 [])) : W p l e room_1 s m #[Value.ref b] below meth c H locs (C) (S) (lw_Z below #[Value.ref b] s) (F0 m 417 ls []) := by
  obtain ⟨hx, hb, hr, hml, hown, hts, hX, hbl, hlocks, hgv⟩ := id C0
  have hbA : ¬ (fun q : Nat => s.heap.size ≤ q) b := Nat.not_le.mpr hbl
  have kcm1 : (-1 : Int32).toInt = -1 := rfl
  have kc0 : (0 : Int32).toInt = 0 := rfl
  have kc1 : (1 : Int32).toInt = 1 := rfl
  have kc2 : (2 : Int32).toInt = 2 := rfl
  obtain ⟨G, gb, nb, hG, hWF, Tx, Tu, To, hGI, hGM, hTI, hTY⟩ := hLW
  refine lv_aload_n G0.1 G0.2.1 dL_law_417 rfl (lv_at hl 3 rfl) ?_
  refine lv_aload_n G0.1 G0.2.1 dL_law_418 rfl (lv_at hl 4 rfl) ?_
  refine lv_iload G0.1 G0.2.1 dL_law_419 (lv_at hl 0 rfl) ?_
  refine lv_iconst (v := 1) G0.1 G0.2.1 dL_law_421 (by decide) ?_
  refine lv_iadd G0.1 G0.2.1 dL_law_422 ?_
  refine lv_topi (fun x_1 ex_1 => ?_)
  first | have tx_1 := ti_add ex_1 (by omega) (by omega) | skip
  have rg_2 : vp_in x_1 N := ti_in (by omega) (by omega)
  refine va_sld G0.1 G0.2.1 hX hbl hbA hw.2.2.2.1 rg_2 dL_law_423 ?_
  refine lv_topi (fun x_3 ex_3 => ?_)
  refine lv_aload_n G0.1 G0.2.1 dL_law_424 rfl (lv_at hl 4 rfl) ?_
  refine lv_iload G0.1 G0.2.1 dL_law_425 (lv_at hl 0 rfl) ?_
  refine lv_iconst (v := 2) G0.1 G0.2.1 dL_law_427 (by decide) ?_
  refine lv_iadd G0.1 G0.2.1 dL_law_428 ?_
  refine lv_topi (fun x_4 ex_4 => ?_)
  first | have tx_4 := ti_add ex_4 (by omega) (by omega) | skip
  have rg_5 : vp_in x_4 N := ti_in (by omega) (by omega)
  refine va_sld G0.1 G0.2.1 hX hbl hbA hw.2.2.2.1 rg_5 dL_law_429 ?_
  refine lv_topi (fun x_6 ex_6 => ?_)
  obtain ⟨v_13, v_14, v_15, hr_12, -⟩ := wg_11 hWF Tx
  have ht10 := fo_ty hWF (wt_11 hG Tx).2.2.2.2.2.1
  refine py_calli hw (va_runV (As := [.int x_3, .int x_6]) (rest := []) G0 (c_X11_hut l E G L f H.size x x_3 x_6 hG hWF Tx) (cwV 2 G0.2.2.2.2 g_L_law_X11_hut_48 rfl rfl rfl (by decide +kernel) ⟨(Nat.le_of_ble_eq_true rfl), (Nat.le_of_ble_eq_true rfl)⟩) (py_preV hw (C := RX11) (T := TX11) (N := 16) rfl hr_12) rfl rfl hl.1 rfl (lv_room (Nat.le_of_ble_eq_true rfl)) dL_law_430 ⟨rm_c (by omega), rm_s (by omega)⟩) (fun r_11 L_7 f_8 H_9 locs hp_10 hw => ?_)
  obtain ⟨rfl, rfl⟩ := hp_10
  refine lv_pop G0.1 G0.2.1 dL_law_433 rfl ?_
  refine lv_aload_n G0.1 G0.2.1 dL_law_434 rfl (lv_at hl 2 rfl) ?_
  refine lv_aload_n G0.1 G0.2.1 dL_law_435 rfl (lv_at hl 4 rfl) ?_
  refine lv_iload G0.1 G0.2.1 dL_law_436 (lv_at hl 0 rfl) ?_
  refine lv_iconst (v := 1) G0.1 G0.2.1 dL_law_438 (by decide) ?_
  refine lv_iadd G0.1 G0.2.1 dL_law_439 ?_
  refine lv_topi (fun x_16 ex_16 => ?_)
  first | have tx_16 := ti_add ex_16 (by omega) (by omega) | skip
  have rg_17 : vp_in x_16 N := ti_in (by omega) (by omega)
  refine va_sld G0.1 G0.2.1 hX hbl hbA hw.2.2.2.1 rg_17 dL_law_440 ?_
  refine lv_topi (fun x_18 ex_18 => ?_)
  have Qx_18 : x_18 = x_3 := by rw [ex_18, ex_3, ex_16, ex_1]
  have qx_18 : x_18.toInt = x_3.toInt := by rw [Qx_18]
  refine lv_aload_n G0.1 G0.2.1 dL_law_441 rfl (lv_at hl 4 rfl) ?_
  refine lv_iload G0.1 G0.2.1 dL_law_442 (lv_at hl 0 rfl) ?_
  refine lv_iconst (v := 2) G0.1 G0.2.1 dL_law_444 (by decide) ?_
  refine lv_iadd G0.1 G0.2.1 dL_law_445 ?_
  refine lv_topi (fun x_19 ex_19 => ?_)
  first | have tx_19 := ti_add ex_19 (by omega) (by omega) | skip
  have rg_20 : vp_in x_19 N := ti_in (by omega) (by omega)
  refine va_sld G0.1 G0.2.1 hX hbl hbA hw.2.2.2.1 rg_20 dL_law_446 ?_
  refine lv_topi (fun x_21 ex_21 => ?_)
  have Qx_21 : x_21 = x_6 := by rw [ex_21, ex_6, ex_19, ex_4]
  have qx_21 : x_21.toInt = x_6.toInt := by rw [Qx_21]
  obtain ⟨v_28, v_29, v_30, v_31, v_32, v_33, v_34, v_35, v_36, v_37, v_38, v_39, v_40, v_41, v_42, v_43, v_44, v_45, v_46, v_47, v_48, v_49, hr_27, -⟩ := wg_12 hWF Tu
  have ht10 := fo_ty hWF (wt_11 hG Tx).2.2.2.2.2.1
  refine py_calli hw (va_runV (As := [.int x_18, .int x_21]) (rest := []) G0 (c_X12_hut l E G L f H_9.size u x_18 x_21 hG hWF Tu) (cwV 2 G0.2.2.2.2 g_L_law_X12_hut_51 rfl rfl rfl (by decide +kernel) ⟨(Nat.le_of_ble_eq_true rfl), (Nat.le_of_ble_eq_true rfl)⟩) (py_preV hw (C := RX12) (T := TX12) (N := 54) rfl hr_27) rfl rfl hl.1 rfl (lv_room (Nat.le_of_ble_eq_true rfl)) dL_law_447 ⟨rm_c (by omega), rm_s (by omega)⟩) (fun r_26 L_22 f_23 H_24 locs hp_25 hw => ?_)
  obtain ⟨rfl, rfl⟩ := hp_25
  refine lv_pop G0.1 G0.2.1 dL_law_450 rfl ?_
  refine lv_goto (tgt := 1321) G0.1 G0.2.1 dL_law_451 (by decide) ?_
  refine W.widen (k := C + 8) (n := S + 256) (by omega) (by omega) ?_
  exact kk _ _ _ _ ls ⟨G, gb, nb, hG, hWF, Tx, Tu, To, hGI, hGM, hTI, hTY⟩ hw (lv_sub hl [0, 1, 2, 3, 4] rfl)
set_option maxHeartbeats 4000000 in
set_option maxRecDepth 100000 in
theorem lc_7 {p : Program} {e : Env} {s : State} {m : MethodId} {below : List Frame} {meth : Method} {c : Code} (l : Launch) (hst : l.stackTraces = false) {b N : Nat} {xs : Nat → Int32} (C0 : lw_At p s m meth c b N xs) (G0 : CallFix p m c cL_law 7 s #[Value.ref b] w_L_law RL) (hN : N ≤ 3072) {E : py_E} {L : List Nat} {f : py_F} {H : Heap} {locs : List Loc} (hw : py_W E (fun q : Nat => s.heap.size ≤ q) s L f H locs) {x u o : Nat} (hLW : LW E L f x u o) {i : Int32} (hi0 : 0 ≤ i.toInt) (hiN : i.toInt + 6 ≤ N) {C S : Nat} (hC : C + 8 ≤ 601024) (hS : S + 256 ≤ 7293034) {ls : Array Slot} (hl : lv_has ls 7 [(4, .int i), (3, .ref o), (2, .ref u), (1, .ref x), (0, .ref b)]) (kk : ∀ (L1 : List Nat) (f1 : py_F) (H1 : Heap) (locs1 : List Loc) (ls1 : Array Slot), LW E L1 f1 x u o → py_W E (fun q : Nat => s.heap.size ≤ q) s L1 f1 H1 locs1 → lv_has ls1 7 [(4, .int i), (3, .ref o), (2, .ref u), (1, .ref x), (0, .ref b)] → W p l e room_1 s m #[Value.ref b] below meth c H1 locs1 (C + 8) (S + 256) (lw_Z below #[Value.ref b] s) (F0 m 1321 ls1 [])) : W p l e room_1 s m #[Value.ref b] below meth c H locs (C) (S) (lw_Z below #[Value.ref b] s) (F0 m 454 ls []) := by
  obtain ⟨hx, hb, hr, hml, hown, hts, hX, hbl, hlocks, hgv⟩ := id C0
  have hbA : ¬ (fun q : Nat => s.heap.size ≤ q) b := Nat.not_le.mpr hbl
  have kcm1 : (-1 : Int32).toInt = -1 := rfl
  have kc0 : (0 : Int32).toInt = 0 := rfl
  have kc1 : (1 : Int32).toInt = 1 := rfl
  obtain ⟨G, gb, nb, hG, hWF, Tx, Tu, To, hGI, hGM, hTI, hTY⟩ := hLW
  refine lv_aload_n G0.1 G0.2.1 dL_law_454 rfl (lv_at hl 3 rfl) ?_
  refine lv_aload_n G0.1 G0.2.1 dL_law_455 rfl (lv_at hl 4 rfl) ?_
  refine lv_iload G0.1 G0.2.1 dL_law_456 (lv_at hl 0 rfl) ?_
  refine lv_iconst (v := 1) G0.1 G0.2.1 dL_law_458 (by decide) ?_
  refine lv_iadd G0.1 G0.2.1 dL_law_459 ?_
  refine lv_topi (fun x_1 ex_1 => ?_)
  first | have tx_1 := ti_add ex_1 (by omega) (by omega) | skip
  have rg_2 : vp_in x_1 N := ti_in (by omega) (by omega)
  refine va_sld G0.1 G0.2.1 hX hbl hbA hw.2.2.2.1 rg_2 dL_law_460 ?_
  refine lv_topi (fun x_3 ex_3 => ?_)
  obtain ⟨v_10, v_11, v_12, hr_9, -⟩ := wg_11 hWF Tx
  have ht10 := fo_ty hWF (wt_11 hG Tx).2.2.2.2.2.1
  refine py_calli hw (va_runV (As := [.int x_3]) (rest := []) G0 (c_X11_law l E G L f H.size x x_3 hG hWF Tx hGI) (cwV 1 G0.2.2.2.2 g_L_law_X11_law_52 rfl rfl rfl (by decide +kernel) ⟨(Nat.le_of_ble_eq_true rfl), (Nat.le_of_ble_eq_true rfl)⟩) (py_preV hw (C := RX11) (T := TX11) (N := 16) rfl hr_9) rfl rfl hl.1 rfl (lv_room (Nat.le_of_ble_eq_true rfl)) dL_law_461 ⟨rm_c (by omega), rm_s (by omega)⟩) (fun r_8 L_4 f_5 H_6 locs hp_7 hw => ?_)
  obtain ⟨bbr_8, en0r_8, en1r_8, en2r_8, en3r_8, hWF, kp_13, hGI⟩ := hp_7
  have hGM := hGM.kps hG Tu kp_13 (LK.of (by decide)) (by decide)
  have hTY := hTY.cl hG Tx Tu kp_13 (by decide) (cls_kp hG Tx ht10 kp_13 (by decide)) en3r_8
  have hTI := hTI.cl hG Tx Tu kp_13 (by decide) en2r_8
  refine lv_pop G0.1 G0.2.1 dL_law_464 rfl ?_
  refine lv_aload_n G0.1 G0.2.1 dL_law_465 rfl (lv_at hl 2 rfl) ?_
  refine lv_aload_n G0.1 G0.2.1 dL_law_466 rfl (lv_at hl 4 rfl) ?_
  refine lv_iload G0.1 G0.2.1 dL_law_467 (lv_at hl 0 rfl) ?_
  refine lv_iconst (v := 1) G0.1 G0.2.1 dL_law_469 (by decide) ?_
  refine lv_iadd G0.1 G0.2.1 dL_law_470 ?_
  refine lv_topi (fun x_14 ex_14 => ?_)
  first | have tx_14 := ti_add ex_14 (by omega) (by omega) | skip
  have rg_15 : vp_in x_14 N := ti_in (by omega) (by omega)
  refine va_sld G0.1 G0.2.1 hX hbl hbA hw.2.2.2.1 rg_15 dL_law_471 ?_
  refine lv_topi (fun x_16 ex_16 => ?_)
  have Qx_16 : x_16 = x_3 := by rw [ex_16, ex_3, ex_14, ex_1]
  have qx_16 : x_16.toInt = x_3.toInt := by rw [Qx_16]
  have hT1 := hTI.1
  obtain ⟨v_23, v_24, v_25, v_26, v_27, v_28, v_29, v_30, v_31, v_32, v_33, v_34, v_35, v_36, v_37, v_38, v_39, v_40, v_41, v_42, v_43, v_44, hr_22, -⟩ := wg_12 hWF Tu
  have ht10 := fo_ty hWF (wt_11 hG Tx).2.2.2.2.2.1
  refine py_calli hw (va_runV (As := [.int x_16]) (rest := []) G0 (c_X12_lawG l E G L_4 f_5 H_6.size u x_16 hG hWF Tu hGM) (cwV 1 G0.2.2.2.2 g_L_law_X12_law_55 rfl rfl rfl (by decide +kernel) ⟨(Nat.le_of_ble_eq_true rfl), (Nat.le_of_ble_eq_true rfl)⟩) (py_preV hw (C := RX12) (T := TX12) (N := 54) rfl hr_22) rfl rfl hl.1 rfl (lv_room (Nat.le_of_ble_eq_true rfl)) dL_law_472 ⟨rm_c (by omega), rm_s (by omega)⟩) (fun r_21 L_17 f_18 H_19 locs hp_20 hw => ?_)
  obtain ⟨bbr_21, en0r_21, en1r_21, en2r_21, hWF, kp_45, fkr_21⟩ := hp_20
  have hGI := hGI.kp hG Tx ht10 (rp_kp hG kp_45 (by decide) (by decide)) kp_45 (by decide)
  have hGM := en0r_21
  have hTY := hTY.rf hG Tx ht10 kp_45 fkr_21 (by decide) (by decide)
  have hTI := hTI.rf hG Tx Tu kp_45 fkr_21 (by decide) (by decide)
  refine lv_pop G0.1 G0.2.1 dL_law_475 rfl ?_
  refine lv_goto (tgt := 1321) G0.1 G0.2.1 dL_law_476 (by decide) ?_
  refine W.widen (k := C + 8) (n := S + 256) (by omega) (by omega) ?_
  exact kk _ _ _ _ ls ⟨G, gb, nb, hG, hWF, Tx, Tu, To, hGI, hGM, hTI, hTY⟩ hw (lv_sub hl [0, 1, 2, 3, 4] rfl)
set_option maxHeartbeats 4000000 in
set_option maxRecDepth 100000 in
theorem lc_8 {p : Program} {e : Env} {s : State} {m : MethodId} {below : List Frame} {meth : Method} {c : Code} (l : Launch) (hst : l.stackTraces = false) {b N : Nat} {xs : Nat → Int32} (C0 : lw_At p s m meth c b N xs) (G0 : CallFix p m c cL_law 7 s #[Value.ref b] w_L_law RL) (hN : N ≤ 3072) {E : py_E} {L : List Nat} {f : py_F} {H : Heap} {locs : List Loc} (hw : py_W E (fun q : Nat => s.heap.size ≤ q) s L f H locs) {x u o : Nat} (hLW : LW E L f x u o) {i : Int32} (hi0 : 0 ≤ i.toInt) (hiN : i.toInt + 6 ≤ N) {C S : Nat} (hC : C + 8 ≤ 601024) (hS : S + 256 ≤ 7293034) {ls : Array Slot} (hl : lv_has ls 7 [(4, .int i), (3, .ref o), (2, .ref u), (1, .ref x), (0, .ref b)]) (kk : ∀ (L1 : List Nat) (f1 : py_F) (H1 : Heap) (locs1 : List Loc) (ls1 : Array Slot), LW E L1 f1 x u o → py_W E (fun q : Nat => s.heap.size ≤ q) s L1 f1 H1 locs1 → lv_has ls1 7 [(4, .int i), (3, .ref o), (2, .ref u), (1, .ref x), (0, .ref b)] → W p l e room_1 s m #[Value.ref b] below meth c H1 locs1 (C + 8) (S + 256) (lw_Z below #[Value.ref b] s) (F0 m 1321 ls1 [])) : W p l e room_1 s m #[Value.ref b] below meth c H locs (C) (S) (lw_Z below #[Value.ref b] s) (F0 m 479 ls []) := by
  obtain ⟨hx, hb, hr, hml, hown, hts, hX, hbl, hlocks, hgv⟩ := id C0
  have hbA : ¬ (fun q : Nat => s.heap.size ≤ q) b := Nat.not_le.mpr hbl
  have kcm1 : (-1 : Int32).toInt = -1 := rfl
  have kc0 : (0 : Int32).toInt = 0 := rfl
  have kc1 : (1 : Int32).toInt = 1 := rfl
  have kc2 : (2 : Int32).toInt = 2 := rfl
  obtain ⟨G, gb, nb, hG, hWF, Tx, Tu, To, hGI, hGM, hTI, hTY⟩ := hLW
  refine lv_aload_n G0.1 G0.2.1 dL_law_479 rfl (lv_at hl 3 rfl) ?_
  refine lv_aload_n G0.1 G0.2.1 dL_law_480 rfl (lv_at hl 4 rfl) ?_
  refine lv_iload G0.1 G0.2.1 dL_law_481 (lv_at hl 0 rfl) ?_
  refine lv_iconst (v := 1) G0.1 G0.2.1 dL_law_483 (by decide) ?_
  refine lv_iadd G0.1 G0.2.1 dL_law_484 ?_
  refine lv_topi (fun x_1 ex_1 => ?_)
  first | have tx_1 := ti_add ex_1 (by omega) (by omega) | skip
  have rg_2 : vp_in x_1 N := ti_in (by omega) (by omega)
  refine va_sld G0.1 G0.2.1 hX hbl hbA hw.2.2.2.1 rg_2 dL_law_485 ?_
  refine lv_topi (fun x_3 ex_3 => ?_)
  refine lv_aload_n G0.1 G0.2.1 dL_law_486 rfl (lv_at hl 4 rfl) ?_
  refine lv_iload G0.1 G0.2.1 dL_law_487 (lv_at hl 0 rfl) ?_
  refine lv_iconst (v := 2) G0.1 G0.2.1 dL_law_489 (by decide) ?_
  refine lv_iadd G0.1 G0.2.1 dL_law_490 ?_
  refine lv_topi (fun x_4 ex_4 => ?_)
  first | have tx_4 := ti_add ex_4 (by omega) (by omega) | skip
  have rg_5 : vp_in x_4 N := ti_in (by omega) (by omega)
  refine va_sld G0.1 G0.2.1 hX hbl hbA hw.2.2.2.1 rg_5 dL_law_491 ?_
  refine lv_topi (fun x_6 ex_6 => ?_)
  obtain ⟨v_13, v_14, v_15, hr_12, -⟩ := wg_11 hWF Tx
  have ht10 := fo_ty hWF (wt_11 hG Tx).2.2.2.2.2.1
  refine py_calli hw (va_runV (As := [.int x_3, .int x_6]) (rest := []) G0 (c_X11_set l E G L f H.size x x_3 x_6 hG hWF Tx hGI) (cwV 2 G0.2.2.2.2 g_L_law_X11_set_56 rfl rfl rfl (by decide +kernel) ⟨(Nat.le_of_ble_eq_true rfl), (Nat.le_of_ble_eq_true rfl)⟩) (py_preV hw (C := RX11) (T := TX11) (N := 16) rfl hr_12) rfl rfl hl.1 rfl (lv_room (Nat.le_of_ble_eq_true rfl)) dL_law_492 ⟨rm_c (by omega), rm_s (by omega)⟩) (fun r_11 L_7 f_8 H_9 locs hp_10 hw => ?_)
  obtain ⟨bbr_11, hWF, kp_16, hGI⟩ := hp_10
  have hGM := hGM.kps hG Tu kp_16 (LK.of (by decide)) (by decide)
  have hTY := hTY.cl hG Tx Tu kp_16 (by decide) (cls_kp hG Tx ht10 kp_16 (by decide)) (hy_same (kp_f kp_16 Tx (by decide) (by decide) (fun _ => by decide))).2
  have hTI := hTI.clx hG Tx Tu kp_16 (by decide)
  refine lv_pop G0.1 G0.2.1 dL_law_495 rfl ?_
  refine lv_aload_n G0.1 G0.2.1 dL_law_496 rfl (lv_at hl 2 rfl) ?_
  refine lv_aload_n G0.1 G0.2.1 dL_law_497 rfl (lv_at hl 4 rfl) ?_
  refine lv_iload G0.1 G0.2.1 dL_law_498 (lv_at hl 0 rfl) ?_
  refine lv_iconst (v := 1) G0.1 G0.2.1 dL_law_500 (by decide) ?_
  refine lv_iadd G0.1 G0.2.1 dL_law_501 ?_
  refine lv_topi (fun x_17 ex_17 => ?_)
  first | have tx_17 := ti_add ex_17 (by omega) (by omega) | skip
  have rg_18 : vp_in x_17 N := ti_in (by omega) (by omega)
  refine va_sld G0.1 G0.2.1 hX hbl hbA hw.2.2.2.1 rg_18 dL_law_502 ?_
  refine lv_topi (fun x_19 ex_19 => ?_)
  have Qx_19 : x_19 = x_3 := by rw [ex_19, ex_3, ex_17, ex_1]
  have qx_19 : x_19.toInt = x_3.toInt := by rw [Qx_19]
  refine lv_aload_n G0.1 G0.2.1 dL_law_503 rfl (lv_at hl 4 rfl) ?_
  refine lv_iload G0.1 G0.2.1 dL_law_504 (lv_at hl 0 rfl) ?_
  refine lv_iconst (v := 2) G0.1 G0.2.1 dL_law_506 (by decide) ?_
  refine lv_iadd G0.1 G0.2.1 dL_law_507 ?_
  refine lv_topi (fun x_20 ex_20 => ?_)
  first | have tx_20 := ti_add ex_20 (by omega) (by omega) | skip
  have rg_21 : vp_in x_20 N := ti_in (by omega) (by omega)
  refine va_sld G0.1 G0.2.1 hX hbl hbA hw.2.2.2.1 rg_21 dL_law_508 ?_
  refine lv_topi (fun x_22 ex_22 => ?_)
  have Qx_22 : x_22 = x_6 := by rw [ex_22, ex_6, ex_20, ex_4]
  have qx_22 : x_22.toInt = x_6.toInt := by rw [Qx_22]
  obtain ⟨v_29, v_30, v_31, v_32, v_33, v_34, v_35, v_36, v_37, v_38, v_39, v_40, v_41, v_42, v_43, v_44, v_45, v_46, v_47, v_48, v_49, v_50, hr_28, -⟩ := wg_12 hWF Tu
  have ht10 := fo_ty hWF (wt_11 hG Tx).2.2.2.2.2.1
  refine py_calli hw (va_runV (As := [.int x_19, .int x_22]) (rest := []) G0 (c_X12_set l E G L_7 f_8 H_9.size u x_19 x_22 hG hWF Tu) (cwV 2 G0.2.2.2.2 g_L_law_X12_set_60 rfl rfl rfl (by decide +kernel) ⟨(Nat.le_of_ble_eq_true rfl), (Nat.le_of_ble_eq_true rfl)⟩) (py_preV hw (C := RX12) (T := TX12) (N := 54) rfl hr_28) rfl rfl hl.1 rfl (lv_room (Nat.le_of_ble_eq_true rfl)) dL_law_509 ⟨rm_c (by omega), rm_s (by omega)⟩) (fun r_27 L_23 f_24 H_25 locs hp_26 hw => ?_)
  obtain ⟨bbr_27, hWF, kp_51, fkr_27⟩ := hp_26
  have hGI := hGI.kp hG Tx ht10 (rp_kp hG kp_51 (by decide) (by decide)) kp_51 (by decide)
  have hGM := hGM.kp hG Tu kp_51 fkr_27 (LK.of (by decide)) (by decide)
  have hTY := hTY.rf hG Tx ht10 kp_51 fkr_27 (by decide) (by decide)
  have hTI := hTI.rf hG Tx Tu kp_51 fkr_27 (by decide) (by decide)
  refine lv_pop G0.1 G0.2.1 dL_law_512 rfl ?_
  refine lv_goto (tgt := 1321) G0.1 G0.2.1 dL_law_513 (by decide) ?_
  refine W.widen (k := C + 8) (n := S + 256) (by omega) (by omega) ?_
  exact kk _ _ _ _ ls ⟨G, gb, nb, hG, hWF, Tx, Tu, To, hGI, hGM, hTI, hTY⟩ hw (lv_sub hl [0, 1, 2, 3, 4] rfl)
set_option maxHeartbeats 4000000 in
set_option maxRecDepth 100000 in
theorem lc_9 {p : Program} {e : Env} {s : State} {m : MethodId} {below : List Frame} {meth : Method} {c : Code} (l : Launch) (hst : l.stackTraces = false) {b N : Nat} {xs : Nat → Int32} (C0 : lw_At p s m meth c b N xs) (G0 : CallFix p m c cL_law 7 s #[Value.ref b] w_L_law RL) (hN : N ≤ 3072) {E : py_E} {L : List Nat} {f : py_F} {H : Heap} {locs : List Loc} (hw : py_W E (fun q : Nat => s.heap.size ≤ q) s L f H locs) {x u o : Nat} (hLW : LW E L f x u o) {i : Int32} (hi0 : 0 ≤ i.toInt) (hiN : i.toInt + 6 ≤ N) {C S : Nat} (hC : C + 8 ≤ 601024) (hS : S + 256 ≤ 7293034) {ls : Array Slot} (hl : lv_has ls 7 [(4, .int i), (3, .ref o), (2, .ref u), (1, .ref x), (0, .ref b)]) (kk : ∀ (L1 : List Nat) (f1 : py_F) (H1 : Heap) (locs1 : List Loc) (ls1 : Array Slot), LW E L1 f1 x u o → py_W E (fun q : Nat => s.heap.size ≤ q) s L1 f1 H1 locs1 → lv_has ls1 7 [(4, .int i), (3, .ref o), (2, .ref u), (1, .ref x), (0, .ref b)] → W p l e room_1 s m #[Value.ref b] below meth c H1 locs1 (C + 8) (S + 256) (lw_Z below #[Value.ref b] s) (F0 m 1321 ls1 [])) : W p l e room_1 s m #[Value.ref b] below meth c H locs (C) (S) (lw_Z below #[Value.ref b] s) (F0 m 516 ls []) := by
  obtain ⟨hx, hb, hr, hml, hown, hts, hX, hbl, hlocks, hgv⟩ := id C0
  have hbA : ¬ (fun q : Nat => s.heap.size ≤ q) b := Nat.not_le.mpr hbl
  have kcm1 : (-1 : Int32).toInt = -1 := rfl
  have kc0 : (0 : Int32).toInt = 0 := rfl
  have kc1 : (1 : Int32).toInt = 1 := rfl
  have kc2 : (2 : Int32).toInt = 2 := rfl
  have kc32 : (32 : Int32).toInt = 32 := rfl
  obtain ⟨G, gb, nb, hG, hWF, Tx, Tu, To, hGI, hGM, hTI, hTY⟩ := hLW
  refine lv_aload_n G0.1 G0.2.1 dL_law_516 rfl (lv_at hl 3 rfl) ?_
  refine lv_aload_n G0.1 G0.2.1 dL_law_517 rfl (lv_at hl 4 rfl) ?_
  refine lv_iload G0.1 G0.2.1 dL_law_518 (lv_at hl 0 rfl) ?_
  refine lv_iconst (v := 1) G0.1 G0.2.1 dL_law_520 (by decide) ?_
  refine lv_iadd G0.1 G0.2.1 dL_law_521 ?_
  refine lv_topi (fun x_1 ex_1 => ?_)
  first | have tx_1 := ti_add ex_1 (by omega) (by omega) | skip
  have rg_2 : vp_in x_1 N := ti_in (by omega) (by omega)
  refine va_sld G0.1 G0.2.1 hX hbl hbA hw.2.2.2.1 rg_2 dL_law_522 ?_
  refine lv_topi (fun x_3 ex_3 => ?_)
  refine lv_i2l (v := x_3.toInt64) G0.1 G0.2.1 dL_law_523 rfl ?_
  refine lv_bipush (v := 32) G0.1 G0.2.1 dL_law_524 (by decide) ?_
  refine lv_lshl G0.1 G0.2.1 dL_law_526 rfl ?_
  refine lv_topl (fun y_4 ey_4 => ?_)
  refine lv_aload_n G0.1 G0.2.1 dL_law_527 rfl (lv_at hl 4 rfl) ?_
  refine lv_iload G0.1 G0.2.1 dL_law_528 (lv_at hl 0 rfl) ?_
  refine lv_iconst (v := 2) G0.1 G0.2.1 dL_law_530 (by decide) ?_
  refine lv_iadd G0.1 G0.2.1 dL_law_531 ?_
  refine lv_topi (fun x_5 ex_5 => ?_)
  first | have tx_5 := ti_add ex_5 (by omega) (by omega) | skip
  have rg_6 : vp_in x_5 N := ti_in (by omega) (by omega)
  refine va_sld G0.1 G0.2.1 hX hbl hbA hw.2.2.2.1 rg_6 dL_law_532 ?_
  refine lv_topi (fun x_7 ex_7 => ?_)
  refine lv_i2l (v := x_7.toInt64) G0.1 G0.2.1 dL_law_533 rfl ?_
  refine lv_ldc2 (v := 4294967295) G0.1 G0.2.1 G0.2.2.2.1 (G0.2.2.2.2 (Cond.constantLong RL 61 (4294967295)) (by decide +kernel)) dL_law_534 ?_
  refine lv_land G0.1 G0.2.1 dL_law_537 ?_
  refine lv_topl (fun y_8 ey_8 => ?_)
  refine lv_lor G0.1 G0.2.1 dL_law_538 ?_
  refine lv_topl (fun y_9 ey_9 => ?_)
  obtain ⟨v_16, v_17, v_18, hr_15, -⟩ := wg_11 hWF Tx
  have ht10 := fo_ty hWF (wt_11 hG Tx).2.2.2.2.2.1
  refine py_calli hw (va_runV (As := [.long y_9]) (rest := []) G0 (c_X11_seed l E G L f H.size x y_9 hG hWF Tx hGI) (cwV 1 G0.2.2.2.2 g_L_law_X11_seed_63 rfl rfl rfl (by decide +kernel) ⟨(Nat.le_of_ble_eq_true rfl), (Nat.le_of_ble_eq_true rfl)⟩) (py_preV hw (C := RX11) (T := TX11) (N := 16) rfl hr_15) rfl rfl hl.1 rfl (lv_room (Nat.le_of_ble_eq_true rfl)) dL_law_539 ⟨rm_c (by omega), rm_s (by omega)⟩) (fun r_14 L_10 f_11 H_12 locs hp_13 hw => ?_)
  obtain ⟨bbr_14, en0r_14, hWF, kp_19, hGI⟩ := hp_13
  have hGM := hGM.kps hG Tu kp_19 (LK.of (by decide)) (by decide)
  have hTY := hTY.cl hG Tx Tu kp_19 (by decide) en0r_14 (hy_same (kp_f kp_19 Tx (by decide) (by decide) (fun _ => by decide))).2
  have hTI := hTI.clx hG Tx Tu kp_19 (by decide)
  refine lv_pop G0.1 G0.2.1 dL_law_542 rfl ?_
  refine lv_aload_n G0.1 G0.2.1 dL_law_543 rfl (lv_at hl 2 rfl) ?_
  refine lv_aload_n G0.1 G0.2.1 dL_law_544 rfl (lv_at hl 4 rfl) ?_
  refine lv_iload G0.1 G0.2.1 dL_law_545 (lv_at hl 0 rfl) ?_
  refine lv_iconst (v := 1) G0.1 G0.2.1 dL_law_547 (by decide) ?_
  refine lv_iadd G0.1 G0.2.1 dL_law_548 ?_
  refine lv_topi (fun x_20 ex_20 => ?_)
  first | have tx_20 := ti_add ex_20 (by omega) (by omega) | skip
  have rg_21 : vp_in x_20 N := ti_in (by omega) (by omega)
  refine va_sld G0.1 G0.2.1 hX hbl hbA hw.2.2.2.1 rg_21 dL_law_549 ?_
  refine lv_topi (fun x_22 ex_22 => ?_)
  have Qx_22 : x_22 = x_3 := by rw [ex_22, ex_3, ex_20, ex_1]
  have qx_22 : x_22.toInt = x_3.toInt := by rw [Qx_22]
  refine lv_i2l (v := x_22.toInt64) G0.1 G0.2.1 dL_law_550 rfl ?_
  refine lv_bipush (v := 32) G0.1 G0.2.1 dL_law_551 (by decide) ?_
  refine lv_lshl G0.1 G0.2.1 dL_law_553 rfl ?_
  refine lv_topl (fun y_23 ey_23 => ?_)
  refine lv_aload_n G0.1 G0.2.1 dL_law_554 rfl (lv_at hl 4 rfl) ?_
  refine lv_iload G0.1 G0.2.1 dL_law_555 (lv_at hl 0 rfl) ?_
  refine lv_iconst (v := 2) G0.1 G0.2.1 dL_law_557 (by decide) ?_
  refine lv_iadd G0.1 G0.2.1 dL_law_558 ?_
  refine lv_topi (fun x_24 ex_24 => ?_)
  first | have tx_24 := ti_add ex_24 (by omega) (by omega) | skip
  have rg_25 : vp_in x_24 N := ti_in (by omega) (by omega)
  refine va_sld G0.1 G0.2.1 hX hbl hbA hw.2.2.2.1 rg_25 dL_law_559 ?_
  refine lv_topi (fun x_26 ex_26 => ?_)
  have Qx_26 : x_26 = x_7 := by rw [ex_26, ex_7, ex_24, ex_5]
  have qx_26 : x_26.toInt = x_7.toInt := by rw [Qx_26]
  refine lv_i2l (v := x_26.toInt64) G0.1 G0.2.1 dL_law_560 rfl ?_
  refine lv_ldc2 (v := 4294967295) G0.1 G0.2.1 G0.2.2.2.1 (G0.2.2.2.2 (Cond.constantLong RL 61 (4294967295)) (by decide +kernel)) dL_law_561 ?_
  refine lv_land G0.1 G0.2.1 dL_law_564 ?_
  refine lv_topl (fun y_27 ey_27 => ?_)
  refine lv_lor G0.1 G0.2.1 dL_law_565 ?_
  refine lv_topl (fun y_28 ey_28 => ?_)
  obtain ⟨v_35, v_36, v_37, v_38, v_39, v_40, v_41, v_42, v_43, v_44, v_45, v_46, v_47, v_48, v_49, v_50, v_51, v_52, v_53, v_54, v_55, v_56, hr_34, -⟩ := wg_12 hWF Tu
  have ht10 := fo_ty hWF (wt_11 hG Tx).2.2.2.2.2.1
  refine py_calli hw (va_runV (As := [.long y_28]) (rest := []) G0 (c_X12_seed l E G L_10 f_11 H_12.size u y_28 hG hWF Tu) (cwV 1 G0.2.2.2.2 g_L_law_X12_seed_67 rfl rfl rfl (by decide +kernel) ⟨(Nat.le_of_ble_eq_true rfl), (Nat.le_of_ble_eq_true rfl)⟩) (py_preV hw (C := RX12) (T := TX12) (N := 54) rfl hr_34) rfl rfl hl.1 rfl (lv_room (Nat.le_of_ble_eq_true rfl)) dL_law_566 ⟨rm_c (by omega), rm_s (by omega)⟩) (fun r_33 L_29 f_30 H_31 locs hp_32 hw => ?_)
  obtain ⟨bbr_33, hWF, kp_57, fkr_33⟩ := hp_32
  have hGI := hGI.kp hG Tx ht10 (rp_kp hG kp_57 (by decide) (by decide)) kp_57 (by decide)
  have hGM := hGM.kp hG Tu kp_57 fkr_33 (LK.of (by decide)) (by decide)
  have hTY := hTY.rf hG Tx ht10 kp_57 fkr_33 (by decide) (by decide)
  have hTI := hTI.rf hG Tx Tu kp_57 fkr_33 (by decide) (by decide)
  refine lv_pop G0.1 G0.2.1 dL_law_569 rfl ?_
  refine lv_goto (tgt := 1321) G0.1 G0.2.1 dL_law_570 (by decide) ?_
  refine W.widen (k := C + 8) (n := S + 256) (by omega) (by omega) ?_
  exact kk _ _ _ _ ls ⟨G, gb, nb, hG, hWF, Tx, Tu, To, hGI, hGM, hTI, hTY⟩ hw (lv_sub hl [0, 1, 2, 3, 4] rfl)
set_option maxHeartbeats 4000000 in
set_option maxRecDepth 100000 in
theorem lc_10 {p : Program} {e : Env} {s : State} {m : MethodId} {below : List Frame} {meth : Method} {c : Code} (l : Launch) (hst : l.stackTraces = false) {b N : Nat} {xs : Nat → Int32} (C0 : lw_At p s m meth c b N xs) (G0 : CallFix p m c cL_law 7 s #[Value.ref b] w_L_law RL) (hN : N ≤ 3072) {E : py_E} {L : List Nat} {f : py_F} {H : Heap} {locs : List Loc} (hw : py_W E (fun q : Nat => s.heap.size ≤ q) s L f H locs) {x u o : Nat} (hLW : LW E L f x u o) {i : Int32} (hi0 : 0 ≤ i.toInt) (hiN : i.toInt + 6 ≤ N) {C S : Nat} (hC : C + 8 ≤ 601024) (hS : S + 256 ≤ 7293034) {ls : Array Slot} (hl : lv_has ls 7 [(4, .int i), (3, .ref o), (2, .ref u), (1, .ref x), (0, .ref b)]) (kk : ∀ (L1 : List Nat) (f1 : py_F) (H1 : Heap) (locs1 : List Loc) (ls1 : Array Slot), LW E L1 f1 x u o → py_W E (fun q : Nat => s.heap.size ≤ q) s L1 f1 H1 locs1 → lv_has ls1 7 [(4, .int i), (3, .ref o), (2, .ref u), (1, .ref x), (0, .ref b)] → W p l e room_1 s m #[Value.ref b] below meth c H1 locs1 (C + 8) (S + 256) (lw_Z below #[Value.ref b] s) (F0 m 1321 ls1 [])) : W p l e room_1 s m #[Value.ref b] below meth c H locs (C) (S) (lw_Z below #[Value.ref b] s) (F0 m 573 ls []) := by
  obtain ⟨hx, hb, hr, hml, hown, hts, hX, hbl, hlocks, hgv⟩ := id C0
  have hbA : ¬ (fun q : Nat => s.heap.size ≤ q) b := Nat.not_le.mpr hbl
  have kcm1 : (-1 : Int32).toInt = -1 := rfl
  have kc0 : (0 : Int32).toInt = 0 := rfl
  have kc1 : (1 : Int32).toInt = 1 := rfl
  obtain ⟨G, gb, nb, hG, hWF, Tx, Tu, To, hGI, hGM, hTI, hTY⟩ := hLW
  refine lv_aload_n G0.1 G0.2.1 dL_law_573 rfl (lv_at hl 3 rfl) ?_
  refine lv_aload_n G0.1 G0.2.1 dL_law_574 rfl (lv_at hl 4 rfl) ?_
  refine lv_iload G0.1 G0.2.1 dL_law_575 (lv_at hl 0 rfl) ?_
  refine lv_iconst (v := 1) G0.1 G0.2.1 dL_law_577 (by decide) ?_
  refine lv_iadd G0.1 G0.2.1 dL_law_578 ?_
  refine lv_topi (fun x_1 ex_1 => ?_)
  first | have tx_1 := ti_add ex_1 (by omega) (by omega) | skip
  have rg_2 : vp_in x_1 N := ti_in (by omega) (by omega)
  refine va_sld G0.1 G0.2.1 hX hbl hbA hw.2.2.2.1 rg_2 dL_law_579 ?_
  refine lv_topi (fun x_3 ex_3 => ?_)
  obtain ⟨v_10, v_11, v_12, hr_9, -⟩ := wg_11 hWF Tx
  have ht10 := fo_ty hWF (wt_11 hG Tx).2.2.2.2.2.1
  refine py_calli hw (va_runV (As := [.int x_3]) (rest := []) G0 (c_X11_winters l E G L f H.size x x_3 hG hWF Tx hGI) (cwV 1 G0.2.2.2.2 g_L_law_X11_winters_68 rfl rfl rfl (by decide +kernel) ⟨(Nat.le_of_ble_eq_true rfl), (Nat.le_of_ble_eq_true rfl)⟩) (py_preV hw (C := RX11) (T := TX11) (N := 16) rfl hr_9) rfl rfl hl.1 rfl (lv_room (Nat.le_of_ble_eq_true rfl)) dL_law_580 ⟨rm_c (by omega), rm_s (by omega)⟩) (fun r_8 L_4 f_5 H_6 locs hp_7 hw => ?_)
  obtain ⟨en0r_8, en1r_8, hWF, kp_13, hGI⟩ := hp_7
  have hGM := hGM.kps hG Tu kp_13 (LK.of (by decide)) (by decide)
  obtain ⟨y0, y1, y2, y3, y4⟩ := hTY
  have yu : f_5 u = f u := kp_f kp_13 Tu (by decide) (by decide) (fun _ => by decide)
  have yu25 := mi_kp yu 25
  have yu29 := mi_kp yu 29
  have yu51 := mi_kp yu 51
  have yu53 := mi_kp yu 53
  have yhm := (hy_same (kp_f kp_13 Tx (by decide) (by decide) (fun _ => by decide))).2
  have hTI := hTI.clx hG Tx Tu kp_13 (by decide)
  refine lv_pop G0.1 G0.2.1 dL_law_583 rfl ?_
  refine lv_aload_n G0.1 G0.2.1 dL_law_584 rfl (lv_at hl 2 rfl) ?_
  refine lv_aload_n G0.1 G0.2.1 dL_law_585 rfl (lv_at hl 4 rfl) ?_
  refine lv_iload G0.1 G0.2.1 dL_law_586 (lv_at hl 0 rfl) ?_
  refine lv_iconst (v := 1) G0.1 G0.2.1 dL_law_588 (by decide) ?_
  refine lv_iadd G0.1 G0.2.1 dL_law_589 ?_
  refine lv_topi (fun x_14 ex_14 => ?_)
  first | have tx_14 := ti_add ex_14 (by omega) (by omega) | skip
  have rg_15 : vp_in x_14 N := ti_in (by omega) (by omega)
  refine va_sld G0.1 G0.2.1 hX hbl hbA hw.2.2.2.1 rg_15 dL_law_590 ?_
  refine lv_topi (fun x_16 ex_16 => ?_)
  have Qx_16 : x_16 = x_3 := by rw [ex_16, ex_3, ex_14, ex_1]
  have qx_16 : x_16.toInt = x_3.toInt := by rw [Qx_16]
  obtain ⟨v_23, v_24, v_25, v_26, v_27, v_28, v_29, v_30, v_31, v_32, v_33, v_34, v_35, v_36, v_37, v_38, v_39, v_40, v_41, v_42, v_43, v_44, hr_22, -⟩ := wg_12 hWF Tu
  have ht10 := fo_ty hWF (wt_11 hG Tx).2.2.2.2.2.1
  refine py_calli hw (va_runV (As := [.int x_16]) (rest := []) G0 (c_X12_winters l E G L_4 f_5 H_6.size u x_16 hG hWF Tu hGM) (cwV 1 G0.2.2.2.2 g_L_law_X12_winters_71 rfl rfl rfl (by decide +kernel) ⟨(Nat.le_of_ble_eq_true rfl), (Nat.le_of_ble_eq_true rfl)⟩) (py_preV hw (C := RX12) (T := TX12) (N := 54) rfl hr_22) rfl rfl hl.1 rfl (lv_room (Nat.le_of_ble_eq_true rfl)) dL_law_591 ⟨rm_c (by omega), rm_s (by omega)⟩) (fun r_21 L_17 f_18 H_19 locs hp_20 hw => ?_)
  obtain ⟨en0r_21, hWF, kp_45, fkr_21⟩ := hp_20
  have hGI := hGI.kp hG Tx ht10 (rp_kp hG kp_45 (by decide) (by decide)) kp_45 (by decide)
  have hGM := hGM.kp hG Tu kp_45 fkr_21 (LK.of (by decide)) (by decide)
  have cy := cls_kp hG Tx ht10 kp_45 (by decide)
  have cm := (hy_same (kp_f kp_45 Tx (by decide) (by decide) (fun _ => by decide))).2
  have yk25 : mi f_18 u 25 = mi f_5 u 25 := fk_mi fkr_21 25 (by decide) (by decide)
  have yk51 : mi f_18 u 51 = mi f_5 u 51 := fk_mi fkr_21 51 (by decide) (by decide)
  have yk53 : mi f_18 u 53 = mi f_5 u 53 := fk_mi fkr_21 53 (by decide) (by decide)
  have hTY : TY G f_18 x u := by
    unfold TY
    exact ⟨by omega, by omega, by omega, by omega, by omega⟩
  have hTI := hTI.rf hG Tx Tu kp_45 fkr_21 (by decide) (by decide)
  refine lv_pop G0.1 G0.2.1 dL_law_594 rfl ?_
  refine lv_goto (tgt := 1321) G0.1 G0.2.1 dL_law_595 (by decide) ?_
  refine W.widen (k := C + 8) (n := S + 256) (by omega) (by omega) ?_
  exact kk _ _ _ _ ls ⟨G, gb, nb, hG, hWF, Tx, Tu, To, hGI, hGM, hTI, hTY⟩ hw (lv_sub hl [0, 1, 2, 3, 4] rfl)
set_option maxHeartbeats 4000000 in
set_option maxRecDepth 100000 in
theorem lc_11 {p : Program} {e : Env} {s : State} {m : MethodId} {below : List Frame} {meth : Method} {c : Code} (l : Launch) (hst : l.stackTraces = false) {b N : Nat} {xs : Nat → Int32} (C0 : lw_At p s m meth c b N xs) (G0 : CallFix p m c cL_law 7 s #[Value.ref b] w_L_law RL) (hN : N ≤ 3072) {E : py_E} {L : List Nat} {f : py_F} {H : Heap} {locs : List Loc} (hw : py_W E (fun q : Nat => s.heap.size ≤ q) s L f H locs) {x u o : Nat} (hLW : LW E L f x u o) {i : Int32} (hi0 : 0 ≤ i.toInt) (hiN : i.toInt + 6 ≤ N) {C S : Nat} (hC : C + 8 ≤ 601024) (hS : S + 256 ≤ 7293034) {ls : Array Slot} (hl : lv_has ls 7 [(4, .int i), (3, .ref o), (2, .ref u), (1, .ref x), (0, .ref b)]) (kk : ∀ (L1 : List Nat) (f1 : py_F) (H1 : Heap) (locs1 : List Loc) (ls1 : Array Slot), LW E L1 f1 x u o → py_W E (fun q : Nat => s.heap.size ≤ q) s L1 f1 H1 locs1 → lv_has ls1 7 [(4, .int i), (3, .ref o), (2, .ref u), (1, .ref x), (0, .ref b)] → W p l e room_1 s m #[Value.ref b] below meth c H1 locs1 (C + 8) (S + 256) (lw_Z below #[Value.ref b] s) (F0 m 1321 ls1 [])) : W p l e room_1 s m #[Value.ref b] below meth c H locs (C) (S) (lw_Z below #[Value.ref b] s) (F0 m 598 ls []) := by
  obtain ⟨hx, hb, hr, hml, hown, hts, hX, hbl, hlocks, hgv⟩ := id C0
  have hbA : ¬ (fun q : Nat => s.heap.size ≤ q) b := Nat.not_le.mpr hbl
  have kcm1 : (-1 : Int32).toInt = -1 := rfl
  have kc0 : (0 : Int32).toInt = 0 := rfl
  have kc1 : (1 : Int32).toInt = 1 := rfl
  obtain ⟨G, gb, nb, hG, hWF, Tx, Tu, To, hGI, hGM, hTI, hTY⟩ := hLW
  refine lv_aload_n G0.1 G0.2.1 dL_law_598 rfl (lv_at hl 3 rfl) ?_
  obtain ⟨v_7, v_8, v_9, hr_6, -⟩ := wg_11 hWF Tx
  have ht10 := fo_ty hWF (wt_11 hG Tx).2.2.2.2.2.1
  refine py_calli hw (va_runV (As := []) (rest := []) G0 (c_X11_spring l E G L f H.size x hG hWF Tx hGI) (cwV 0 G0.2.2.2.2 g_L_law_X11_spring_72 rfl rfl rfl (by decide +kernel) ⟨(Nat.le_of_ble_eq_true rfl), (Nat.le_of_ble_eq_true rfl)⟩) (py_preV hw (C := RX11) (T := TX11) (N := 16) rfl hr_6) rfl rfl hl.1 rfl (lv_room (Nat.le_of_ble_eq_true rfl)) dL_law_599 ⟨rm_c (by omega), rm_s (by omega)⟩) (fun r_5 L_1 f_2 H_3 locs hp_4 hw => ?_)
  obtain ⟨en0r_5, hWF, kp_10, hGI⟩ := hp_4
  have hGM := hGM.kps hG Tu kp_10 (LK.of (by decide)) (by decide)
  have hTY := hTY.cl hG Tx Tu kp_10 (by decide) en0r_5 (hy_same (kp_f kp_10 Tx (by decide) (by decide) (fun _ => by decide))).2
  have hTI := hTI.clx hG Tx Tu kp_10 (by decide)
  refine lv_pop G0.1 G0.2.1 dL_law_602 rfl ?_
  refine lv_aload_n G0.1 G0.2.1 dL_law_603 rfl (lv_at hl 2 rfl) ?_
  obtain ⟨v_17, v_18, v_19, v_20, v_21, v_22, v_23, v_24, v_25, v_26, v_27, v_28, v_29, v_30, v_31, v_32, v_33, v_34, v_35, v_36, v_37, v_38, hr_16, -⟩ := wg_12 hWF Tu
  have ht10 := fo_ty hWF (wt_11 hG Tx).2.2.2.2.2.1
  refine py_calli hw (va_runV (As := []) (rest := []) G0 (c_X12_spring l E G L_1 f_2 H_3.size u hG hWF Tu) (cwV 0 G0.2.2.2.2 g_L_law_X12_spring_76 rfl rfl rfl (by decide +kernel) ⟨(Nat.le_of_ble_eq_true rfl), (Nat.le_of_ble_eq_true rfl)⟩) (py_preV hw (C := RX12) (T := TX12) (N := 54) rfl hr_16) rfl rfl hl.1 rfl (lv_room (Nat.le_of_ble_eq_true rfl)) dL_law_604 ⟨rm_c (by omega), rm_s (by omega)⟩) (fun r_15 L_11 f_12 H_13 locs hp_14 hw => ?_)
  obtain ⟨hWF, kp_39, fkr_15⟩ := hp_14
  have hGI := hGI.kp hG Tx ht10 (rp_kp hG kp_39 (by decide) (by decide)) kp_39 (by decide)
  have hGM := hGM.kp hG Tu kp_39 fkr_15 (LK.of (by decide)) (by decide)
  have hTY := hTY.rf hG Tx ht10 kp_39 fkr_15 (by decide) (by decide)
  have hTI := hTI.rf hG Tx Tu kp_39 fkr_15 (by decide) (by decide)
  refine lv_pop G0.1 G0.2.1 dL_law_607 rfl ?_
  refine lv_goto (tgt := 1321) G0.1 G0.2.1 dL_law_608 (by decide) ?_
  refine W.widen (k := C + 8) (n := S + 256) (by omega) (by omega) ?_
  exact kk _ _ _ _ ls ⟨G, gb, nb, hG, hWF, Tx, Tu, To, hGI, hGM, hTI, hTY⟩ hw (lv_sub hl [0, 1, 2, 3, 4] rfl)
set_option maxHeartbeats 4000000 in
set_option maxRecDepth 100000 in
theorem lc_12 {p : Program} {e : Env} {s : State} {m : MethodId} {below : List Frame} {meth : Method} {c : Code} (l : Launch) (hst : l.stackTraces = false) {b N : Nat} {xs : Nat → Int32} (C0 : lw_At p s m meth c b N xs) (G0 : CallFix p m c cL_law 7 s #[Value.ref b] w_L_law RL) (hN : N ≤ 3072) {E : py_E} {L : List Nat} {f : py_F} {H : Heap} {locs : List Loc} (hw : py_W E (fun q : Nat => s.heap.size ≤ q) s L f H locs) {x u o : Nat} (hLW : LW E L f x u o) {i : Int32} (hi0 : 0 ≤ i.toInt) (hiN : i.toInt + 6 ≤ N) {C S : Nat} (hC : C + 8 ≤ 601024) (hS : S + 256 ≤ 7293034) {ls : Array Slot} (hl : lv_has ls 7 [(4, .int i), (3, .ref o), (2, .ref u), (1, .ref x), (0, .ref b)]) (kk : ∀ (L1 : List Nat) (f1 : py_F) (H1 : Heap) (locs1 : List Loc) (ls1 : Array Slot), LW E L1 f1 x u o → py_W E (fun q : Nat => s.heap.size ≤ q) s L1 f1 H1 locs1 → lv_has ls1 7 [(4, .int i), (3, .ref o), (2, .ref u), (1, .ref x), (0, .ref b)] → W p l e room_1 s m #[Value.ref b] below meth c H1 locs1 (C + 8) (S + 256) (lw_Z below #[Value.ref b] s) (F0 m 1321 ls1 [])) : W p l e room_1 s m #[Value.ref b] below meth c H locs (C) (S) (lw_Z below #[Value.ref b] s) (F0 m 611 ls []) := by
  obtain ⟨hx, hb, hr, hml, hown, hts, hX, hbl, hlocks, hgv⟩ := id C0
  have hbA : ¬ (fun q : Nat => s.heap.size ≤ q) b := Nat.not_le.mpr hbl
  have kcm1 : (-1 : Int32).toInt = -1 := rfl
  have kc0 : (0 : Int32).toInt = 0 := rfl
  have kc1 : (1 : Int32).toInt = 1 := rfl
  have kc2 : (2 : Int32).toInt = 2 := rfl
  obtain ⟨G, gb, nb, hG, hWF, Tx, Tu, To, hGI, hGM, hTI, hTY⟩ := hLW
  refine lv_aload_n G0.1 G0.2.1 dL_law_611 rfl (lv_at hl 3 rfl) ?_
  refine lv_aload_n G0.1 G0.2.1 dL_law_612 rfl (lv_at hl 4 rfl) ?_
  refine lv_iload G0.1 G0.2.1 dL_law_613 (lv_at hl 0 rfl) ?_
  refine lv_iconst (v := 1) G0.1 G0.2.1 dL_law_615 (by decide) ?_
  refine lv_iadd G0.1 G0.2.1 dL_law_616 ?_
  refine lv_topi (fun x_1 ex_1 => ?_)
  first | have tx_1 := ti_add ex_1 (by omega) (by omega) | skip
  have rg_2 : vp_in x_1 N := ti_in (by omega) (by omega)
  refine va_sld G0.1 G0.2.1 hX hbl hbA hw.2.2.2.1 rg_2 dL_law_617 ?_
  refine lv_topi (fun x_3 ex_3 => ?_)
  refine lv_aload_n G0.1 G0.2.1 dL_law_618 rfl (lv_at hl 4 rfl) ?_
  refine lv_iload G0.1 G0.2.1 dL_law_619 (lv_at hl 0 rfl) ?_
  refine lv_iconst (v := 2) G0.1 G0.2.1 dL_law_621 (by decide) ?_
  refine lv_iadd G0.1 G0.2.1 dL_law_622 ?_
  refine lv_topi (fun x_4 ex_4 => ?_)
  first | have tx_4 := ti_add ex_4 (by omega) (by omega) | skip
  have rg_5 : vp_in x_4 N := ti_in (by omega) (by omega)
  refine va_sld G0.1 G0.2.1 hX hbl hbA hw.2.2.2.1 rg_5 dL_law_623 ?_
  refine lv_topi (fun x_6 ex_6 => ?_)
  obtain ⟨v_13, v_14, v_15, hr_12, -⟩ := wg_11 hWF Tx
  have ht10 := fo_ty hWF (wt_11 hG Tx).2.2.2.2.2.1
  refine py_calli hw (va_runV (As := [.int x_3, .int x_6]) (rest := []) G0 (c_X11_buy l E G L f H.size x x_3 x_6 hG hWF Tx hGI) (cwV 2 G0.2.2.2.2 g_L_law_X11_buy_77 rfl rfl rfl (by decide +kernel) ⟨(Nat.le_of_ble_eq_true rfl), (Nat.le_of_ble_eq_true rfl)⟩) (py_preV hw (C := RX11) (T := TX11) (N := 16) rfl hr_12) rfl rfl hl.1 rfl (lv_room (Nat.le_of_ble_eq_true rfl)) dL_law_624 ⟨rm_c (by omega), rm_s (by omega)⟩) (fun r_11 L_7 f_8 H_9 locs hp_10 hw => ?_)
  obtain ⟨hWF, kp_16, hGI⟩ := hp_10
  have hGM := hGM.kps hG Tu kp_16 (LK.of (by decide)) (by decide)
  have hTY := hTY.cl hG Tx Tu kp_16 (by decide) (cls_kp hG Tx ht10 kp_16 (by decide)) (hy_same (kp_f kp_16 Tx (by decide) (by decide) (fun _ => by decide))).2
  have hTI := hTI.clx hG Tx Tu kp_16 (by decide)
  refine lv_pop G0.1 G0.2.1 dL_law_627 rfl ?_
  refine lv_aload_n G0.1 G0.2.1 dL_law_628 rfl (lv_at hl 2 rfl) ?_
  refine lv_aload_n G0.1 G0.2.1 dL_law_629 rfl (lv_at hl 4 rfl) ?_
  refine lv_iload G0.1 G0.2.1 dL_law_630 (lv_at hl 0 rfl) ?_
  refine lv_iconst (v := 1) G0.1 G0.2.1 dL_law_632 (by decide) ?_
  refine lv_iadd G0.1 G0.2.1 dL_law_633 ?_
  refine lv_topi (fun x_17 ex_17 => ?_)
  first | have tx_17 := ti_add ex_17 (by omega) (by omega) | skip
  have rg_18 : vp_in x_17 N := ti_in (by omega) (by omega)
  refine va_sld G0.1 G0.2.1 hX hbl hbA hw.2.2.2.1 rg_18 dL_law_634 ?_
  refine lv_topi (fun x_19 ex_19 => ?_)
  have Qx_19 : x_19 = x_3 := by rw [ex_19, ex_3, ex_17, ex_1]
  have qx_19 : x_19.toInt = x_3.toInt := by rw [Qx_19]
  refine lv_aload_n G0.1 G0.2.1 dL_law_635 rfl (lv_at hl 4 rfl) ?_
  refine lv_iload G0.1 G0.2.1 dL_law_636 (lv_at hl 0 rfl) ?_
  refine lv_iconst (v := 2) G0.1 G0.2.1 dL_law_638 (by decide) ?_
  refine lv_iadd G0.1 G0.2.1 dL_law_639 ?_
  refine lv_topi (fun x_20 ex_20 => ?_)
  first | have tx_20 := ti_add ex_20 (by omega) (by omega) | skip
  have rg_21 : vp_in x_20 N := ti_in (by omega) (by omega)
  refine va_sld G0.1 G0.2.1 hX hbl hbA hw.2.2.2.1 rg_21 dL_law_640 ?_
  refine lv_topi (fun x_22 ex_22 => ?_)
  have Qx_22 : x_22 = x_6 := by rw [ex_22, ex_6, ex_20, ex_4]
  have qx_22 : x_22.toInt = x_6.toInt := by rw [Qx_22]
  obtain ⟨v_29, v_30, v_31, v_32, v_33, v_34, v_35, v_36, v_37, v_38, v_39, v_40, v_41, v_42, v_43, v_44, v_45, v_46, v_47, v_48, v_49, v_50, hr_28, -⟩ := wg_12 hWF Tu
  have ht10 := fo_ty hWF (wt_11 hG Tx).2.2.2.2.2.1
  refine py_calli hw (va_runV (As := [.int x_19, .int x_22]) (rest := []) G0 (c_X12_buy l E G L_7 f_8 H_9.size u x_19 x_22 hG hWF Tu) (cwV 2 G0.2.2.2.2 g_L_law_X12_buy_80 rfl rfl rfl (by decide +kernel) ⟨(Nat.le_of_ble_eq_true rfl), (Nat.le_of_ble_eq_true rfl)⟩) (py_preV hw (C := RX12) (T := TX12) (N := 54) rfl hr_28) rfl rfl hl.1 rfl (lv_room (Nat.le_of_ble_eq_true rfl)) dL_law_641 ⟨rm_c (by omega), rm_s (by omega)⟩) (fun r_27 L_23 f_24 H_25 locs hp_26 hw => ?_)
  obtain ⟨hWF, kp_51, fkr_27⟩ := hp_26
  have hGI := hGI.kp hG Tx ht10 (rp_kp hG kp_51 (by decide) (by decide)) kp_51 (by decide)
  have hGM := hGM.kp hG Tu kp_51 fkr_27 (LK.of (by decide)) (by decide)
  have hTY := hTY.rf hG Tx ht10 kp_51 fkr_27 (by decide) (by decide)
  have hTI := hTI.rf hG Tx Tu kp_51 fkr_27 (by decide) (by decide)
  refine lv_pop G0.1 G0.2.1 dL_law_644 rfl ?_
  refine lv_goto (tgt := 1321) G0.1 G0.2.1 dL_law_645 (by decide) ?_
  refine W.widen (k := C + 8) (n := S + 256) (by omega) (by omega) ?_
  exact kk _ _ _ _ ls ⟨G, gb, nb, hG, hWF, Tx, Tu, To, hGI, hGM, hTI, hTY⟩ hw (lv_sub hl [0, 1, 2, 3, 4] rfl)
set_option maxHeartbeats 4000000 in
set_option maxRecDepth 100000 in
theorem lc_13 {p : Program} {e : Env} {s : State} {m : MethodId} {below : List Frame} {meth : Method} {c : Code} (l : Launch) (hst : l.stackTraces = false) {b N : Nat} {xs : Nat → Int32} (C0 : lw_At p s m meth c b N xs) (G0 : CallFix p m c cL_law 7 s #[Value.ref b] w_L_law RL) (hN : N ≤ 3072) {E : py_E} {L : List Nat} {f : py_F} {H : Heap} {locs : List Loc} (hw : py_W E (fun q : Nat => s.heap.size ≤ q) s L f H locs) {x u o : Nat} (hLW : LW E L f x u o) {i : Int32} (hi0 : 0 ≤ i.toInt) (hiN : i.toInt + 6 ≤ N) {C S : Nat} (hC : C + 8 ≤ 601024) (hS : S + 256 ≤ 7293034) {ls : Array Slot} (hl : lv_has ls 7 [(4, .int i), (3, .ref o), (2, .ref u), (1, .ref x), (0, .ref b)]) (kk : ∀ (L1 : List Nat) (f1 : py_F) (H1 : Heap) (locs1 : List Loc) (ls1 : Array Slot), LW E L1 f1 x u o → py_W E (fun q : Nat => s.heap.size ≤ q) s L1 f1 H1 locs1 → lv_has ls1 7 [(4, .int i), (3, .ref o), (2, .ref u), (1, .ref x), (0, .ref b)] → W p l e room_1 s m #[Value.ref b] below meth c H1 locs1 (C + 8) (S + 256) (lw_Z below #[Value.ref b] s) (F0 m 1321 ls1 [])) : W p l e room_1 s m #[Value.ref b] below meth c H locs (C) (S) (lw_Z below #[Value.ref b] s) (F0 m 648 ls []) := by
  obtain ⟨hx, hb, hr, hml, hown, hts, hX, hbl, hlocks, hgv⟩ := id C0
  have hbA : ¬ (fun q : Nat => s.heap.size ≤ q) b := Nat.not_le.mpr hbl
  have kcm1 : (-1 : Int32).toInt = -1 := rfl
  have kc0 : (0 : Int32).toInt = 0 := rfl
  have kc1 : (1 : Int32).toInt = 1 := rfl
  obtain ⟨G, gb, nb, hG, hWF, Tx, Tu, To, hGI, hGM, hTI, hTY⟩ := hLW
  refine lv_aload_n G0.1 G0.2.1 dL_law_648 rfl (lv_at hl 3 rfl) ?_
  obtain ⟨v_7, v_8, v_9, hr_6, -⟩ := wg_11 hWF Tx
  have ht10 := fo_ty hWF (wt_11 hG Tx).2.2.2.2.2.1
  refine py_calli hw (va_runV (As := []) (rest := []) G0 (c_X11_undo l E G L f H.size x hG hWF Tx hGI) (cwV 0 G0.2.2.2.2 g_L_law_X11_undo_81 rfl rfl rfl (by decide +kernel) ⟨(Nat.le_of_ble_eq_true rfl), (Nat.le_of_ble_eq_true rfl)⟩) (py_preV hw (C := RX11) (T := TX11) (N := 16) rfl hr_6) rfl rfl hl.1 rfl (lv_room (Nat.le_of_ble_eq_true rfl)) dL_law_649 ⟨rm_c (by omega), rm_s (by omega)⟩) (fun r_5 L_1 f_2 H_3 locs hp_4 hw => ?_)
  obtain ⟨hWF, kp_10, hGI⟩ := hp_4
  have hGM := hGM.kps hG Tu kp_10 (LK.of (by decide)) (by decide)
  have hTY := hTY.cl hG Tx Tu kp_10 (by decide) (cls_kp hG Tx ht10 kp_10 (by decide)) (hy_same (kp_f kp_10 Tx (by decide) (by decide) (fun _ => by decide))).2
  have hTI := hTI.clx hG Tx Tu kp_10 (by decide)
  refine lv_pop G0.1 G0.2.1 dL_law_652 rfl ?_
  refine lv_aload_n G0.1 G0.2.1 dL_law_653 rfl (lv_at hl 2 rfl) ?_
  obtain ⟨v_17, v_18, v_19, v_20, v_21, v_22, v_23, v_24, v_25, v_26, v_27, v_28, v_29, v_30, v_31, v_32, v_33, v_34, v_35, v_36, v_37, v_38, hr_16, -⟩ := wg_12 hWF Tu
  have ht10 := fo_ty hWF (wt_11 hG Tx).2.2.2.2.2.1
  refine py_calli hw (va_runV (As := []) (rest := []) G0 (c_X12_undo l E G L_1 f_2 H_3.size u hG hWF Tu) (cwV 0 G0.2.2.2.2 g_L_law_X12_undo_84 rfl rfl rfl (by decide +kernel) ⟨(Nat.le_of_ble_eq_true rfl), (Nat.le_of_ble_eq_true rfl)⟩) (py_preV hw (C := RX12) (T := TX12) (N := 54) rfl hr_16) rfl rfl hl.1 rfl (lv_room (Nat.le_of_ble_eq_true rfl)) dL_law_654 ⟨rm_c (by omega), rm_s (by omega)⟩) (fun r_15 L_11 f_12 H_13 locs hp_14 hw => ?_)
  obtain ⟨hWF, kp_39, fkr_15⟩ := hp_14
  have hGI := hGI.kp hG Tx ht10 (rp_kp hG kp_39 (by decide) (by decide)) kp_39 (by decide)
  have hGM := hGM.kp hG Tu kp_39 fkr_15 (LK.of (by decide)) (by decide)
  have hTY := hTY.rf hG Tx ht10 kp_39 fkr_15 (by decide) (by decide)
  have hTI := hTI.rf hG Tx Tu kp_39 fkr_15 (by decide) (by decide)
  refine lv_pop G0.1 G0.2.1 dL_law_657 rfl ?_
  refine lv_goto (tgt := 1321) G0.1 G0.2.1 dL_law_658 (by decide) ?_
  refine W.widen (k := C + 8) (n := S + 256) (by omega) (by omega) ?_
  exact kk _ _ _ _ ls ⟨G, gb, nb, hG, hWF, Tx, Tu, To, hGI, hGM, hTI, hTY⟩ hw (lv_sub hl [0, 1, 2, 3, 4] rfl)
set_option maxHeartbeats 4000000 in
set_option maxRecDepth 100000 in
theorem lc_14 {p : Program} {e : Env} {s : State} {m : MethodId} {below : List Frame} {meth : Method} {c : Code} (l : Launch) (hst : l.stackTraces = false) {b N : Nat} {xs : Nat → Int32} (C0 : lw_At p s m meth c b N xs) (G0 : CallFix p m c cL_law 7 s #[Value.ref b] w_L_law RL) (hN : N ≤ 3072) {E : py_E} {L : List Nat} {f : py_F} {H : Heap} {locs : List Loc} (hw : py_W E (fun q : Nat => s.heap.size ≤ q) s L f H locs) {x u o : Nat} (hLW : LW E L f x u o) {i : Int32} (hi0 : 0 ≤ i.toInt) (hiN : i.toInt + 6 ≤ N) {C S : Nat} (hC : C + 8 ≤ 601024) (hS : S + 256 ≤ 7293034) {ls : Array Slot} (hl : lv_has ls 7 [(4, .int i), (3, .ref o), (2, .ref u), (1, .ref x), (0, .ref b)]) (kk : ∀ (L1 : List Nat) (f1 : py_F) (H1 : Heap) (locs1 : List Loc) (ls1 : Array Slot), LW E L1 f1 x u o → py_W E (fun q : Nat => s.heap.size ≤ q) s L1 f1 H1 locs1 → lv_has ls1 7 [(4, .int i), (3, .ref o), (2, .ref u), (1, .ref x), (0, .ref b)] → W p l e room_1 s m #[Value.ref b] below meth c H1 locs1 (C + 8) (S + 256) (lw_Z below #[Value.ref b] s) (F0 m 1321 ls1 [])) : W p l e room_1 s m #[Value.ref b] below meth c H locs (C) (S) (lw_Z below #[Value.ref b] s) (F0 m 661 ls []) := by
  obtain ⟨hx, hb, hr, hml, hown, hts, hX, hbl, hlocks, hgv⟩ := id C0
  have hbA : ¬ (fun q : Nat => s.heap.size ≤ q) b := Nat.not_le.mpr hbl
  have kcm1 : (-1 : Int32).toInt = -1 := rfl
  have kc0 : (0 : Int32).toInt = 0 := rfl
  have kc1 : (1 : Int32).toInt = 1 := rfl
  have kc2 : (2 : Int32).toInt = 2 := rfl
  obtain ⟨G, gb, nb, hG, hWF, Tx, Tu, To, hGI, hGM, hTI, hTY⟩ := hLW
  refine lv_aload_n G0.1 G0.2.1 dL_law_661 rfl (lv_at hl 3 rfl) ?_
  refine lv_aload_n G0.1 G0.2.1 dL_law_662 rfl (lv_at hl 4 rfl) ?_
  refine lv_iload G0.1 G0.2.1 dL_law_663 (lv_at hl 0 rfl) ?_
  refine lv_iconst (v := 1) G0.1 G0.2.1 dL_law_665 (by decide) ?_
  refine lv_iadd G0.1 G0.2.1 dL_law_666 ?_
  refine lv_topi (fun x_1 ex_1 => ?_)
  first | have tx_1 := ti_add ex_1 (by omega) (by omega) | skip
  have rg_2 : vp_in x_1 N := ti_in (by omega) (by omega)
  refine va_sld G0.1 G0.2.1 hX hbl hbA hw.2.2.2.1 rg_2 dL_law_667 ?_
  refine lv_topi (fun x_3 ex_3 => ?_)
  refine lv_aload_n G0.1 G0.2.1 dL_law_668 rfl (lv_at hl 4 rfl) ?_
  refine lv_iload G0.1 G0.2.1 dL_law_669 (lv_at hl 0 rfl) ?_
  refine lv_iconst (v := 2) G0.1 G0.2.1 dL_law_671 (by decide) ?_
  refine lv_iadd G0.1 G0.2.1 dL_law_672 ?_
  refine lv_topi (fun x_4 ex_4 => ?_)
  first | have tx_4 := ti_add ex_4 (by omega) (by omega) | skip
  have rg_5 : vp_in x_4 N := ti_in (by omega) (by omega)
  refine va_sld G0.1 G0.2.1 hX hbl hbA hw.2.2.2.1 rg_5 dL_law_673 ?_
  refine lv_topi (fun x_6 ex_6 => ?_)
  refine lv_if_eq (tgt := 681) G0.1 G0.2.1 dL_law_674 (by decide) (fun c_7 => ?_) (fun c_7 => ?_)
  · skip
    have tc_7 := ti_eq c_7
    refine lv_iconst (v := 0) G0.1 G0.2.1 dL_law_681 (by decide) ?_
    obtain ⟨v_14, v_15, v_16, hr_13, -⟩ := wg_11 hWF Tx
    have ht10 := fo_ty hWF (wt_11 hG Tx).2.2.2.2.2.1
    refine py_calli hw (va_runV (As := [.int x_3, .int 0]) (rest := []) G0 (c_X11_hush l E G L f H.size x x_3 0 hG hWF Tx ⟨by decide, by decide⟩ hGI) (cwV 2 G0.2.2.2.2 g_L_law_X11_hush_85 rfl rfl rfl (by decide +kernel) ⟨(Nat.le_of_ble_eq_true rfl), (Nat.le_of_ble_eq_true rfl)⟩) (py_preV hw (C := RX11) (T := TX11) (N := 16) rfl hr_13) rfl rfl hl.1 rfl (lv_room (Nat.le_of_ble_eq_true rfl)) dL_law_682 ⟨rm_c (by omega), rm_s (by omega)⟩) (fun r_12 L_8 f_9 H_10 locs hp_11 hw => ?_)
    obtain ⟨bbr_12, hWF, kp_17, hGI⟩ := hp_11
    have hGM := hGM.kps hG Tu kp_17 (LK.of (by decide)) (by decide)
    have hTY := hTY.cl hG Tx Tu kp_17 (by decide) (cls_kp hG Tx ht10 kp_17 (by decide)) (hy_same (kp_f kp_17 Tx (by decide) (by decide) (fun _ => by decide))).2
    have hTI := hTI.clx hG Tx Tu kp_17 (by decide)
    refine lv_pop G0.1 G0.2.1 dL_law_685 rfl ?_
    refine lv_aload_n G0.1 G0.2.1 dL_law_686 rfl (lv_at hl 2 rfl) ?_
    refine lv_aload_n G0.1 G0.2.1 dL_law_687 rfl (lv_at hl 4 rfl) ?_
    refine lv_iload G0.1 G0.2.1 dL_law_688 (lv_at hl 0 rfl) ?_
    refine lv_iconst (v := 1) G0.1 G0.2.1 dL_law_690 (by decide) ?_
    refine lv_iadd G0.1 G0.2.1 dL_law_691 ?_
    refine lv_topi (fun x_18 ex_18 => ?_)
    first | have tx_18 := ti_add ex_18 (by omega) (by omega) | skip
    have rg_19 : vp_in x_18 N := ti_in (by omega) (by omega)
    refine va_sld G0.1 G0.2.1 hX hbl hbA hw.2.2.2.1 rg_19 dL_law_692 ?_
    refine lv_topi (fun x_20 ex_20 => ?_)
    have Qx_20 : x_20 = x_3 := by rw [ex_20, ex_3, ex_18, ex_1]
    have qx_20 : x_20.toInt = x_3.toInt := by rw [Qx_20]
    refine lv_aload_n G0.1 G0.2.1 dL_law_693 rfl (lv_at hl 4 rfl) ?_
    refine lv_iload G0.1 G0.2.1 dL_law_694 (lv_at hl 0 rfl) ?_
    refine lv_iconst (v := 2) G0.1 G0.2.1 dL_law_696 (by decide) ?_
    refine lv_iadd G0.1 G0.2.1 dL_law_697 ?_
    refine lv_topi (fun x_21 ex_21 => ?_)
    first | have tx_21 := ti_add ex_21 (by omega) (by omega) | skip
    have rg_22 : vp_in x_21 N := ti_in (by omega) (by omega)
    refine va_sld G0.1 G0.2.1 hX hbl hbA hw.2.2.2.1 rg_22 dL_law_698 ?_
    refine lv_topi (fun x_23 ex_23 => ?_)
    have Qx_23 : x_23 = x_6 := by rw [ex_23, ex_6, ex_21, ex_4]
    have qx_23 : x_23.toInt = x_6.toInt := by rw [Qx_23]
    refine lv_if_eq (tgt := 706) G0.1 G0.2.1 dL_law_699 (by decide) (fun c_24 => ?_) (fun c_24 => ?_)
    · skip
      have tc_24 := ti_eq c_24
      refine lv_iconst (v := 0) G0.1 G0.2.1 dL_law_706 (by decide) ?_
      obtain ⟨v_31, v_32, v_33, v_34, v_35, v_36, v_37, v_38, v_39, v_40, v_41, v_42, v_43, v_44, v_45, v_46, v_47, v_48, v_49, v_50, v_51, v_52, hr_30, -⟩ := wg_12 hWF Tu
      have ht10 := fo_ty hWF (wt_11 hG Tx).2.2.2.2.2.1
      refine py_calli hw (va_runV (As := [.int x_20, .int 0]) (rest := []) G0 (c_X12_hush l E G L_8 f_9 H_10.size u x_20 0 hG hWF Tu ⟨by decide, by decide⟩) (cwV 2 G0.2.2.2.2 g_L_law_X12_hush_89 rfl rfl rfl (by decide +kernel) ⟨(Nat.le_of_ble_eq_true rfl), (Nat.le_of_ble_eq_true rfl)⟩) (py_preV hw (C := RX12) (T := TX12) (N := 54) rfl hr_30) rfl rfl hl.1 rfl (lv_room (Nat.le_of_ble_eq_true rfl)) dL_law_707 ⟨rm_c (by omega), rm_s (by omega)⟩) (fun r_29 L_25 f_26 H_27 locs hp_28 hw => ?_)
      obtain ⟨bbr_29, hWF, kp_53, fkr_29⟩ := hp_28
      have hGI := hGI.kp hG Tx ht10 (rp_kp hG kp_53 (by decide) (by decide)) kp_53 (by decide)
      have hGM := hGM.kps hG Tu kp_53 (LK.of (by decide)) (by decide)
      have hTY := hTY.rf hG Tx ht10 kp_53 fkr_29 (by decide) (by decide)
      have hTI := hTI.rf hG Tx Tu kp_53 fkr_29 (by decide) (by decide)
      refine lv_pop G0.1 G0.2.1 dL_law_710 rfl ?_
      refine lv_goto (tgt := 1321) G0.1 G0.2.1 dL_law_711 (by decide) ?_
      refine W.widen (k := C + 8) (n := S + 256) (by omega) (by omega) ?_
      exact kk _ _ _ _ ls ⟨G, gb, nb, hG, hWF, Tx, Tu, To, hGI, hGM, hTI, hTY⟩ hw (lv_sub hl [0, 1, 2, 3, 4] rfl)
    · skip
      have tc_24 := ti_ne c_24
      refine lv_iconst (v := 1) G0.1 G0.2.1 dL_law_702 (by decide) ?_
      refine lv_goto (tgt := 707) G0.1 G0.2.1 dL_law_703 (by decide) ?_
      obtain ⟨v_60, v_61, v_62, v_63, v_64, v_65, v_66, v_67, v_68, v_69, v_70, v_71, v_72, v_73, v_74, v_75, v_76, v_77, v_78, v_79, v_80, v_81, hr_59, -⟩ := wg_12 hWF Tu
      have ht10 := fo_ty hWF (wt_11 hG Tx).2.2.2.2.2.1
      refine py_calli hw (va_runV (As := [.int x_20, .int 1]) (rest := []) G0 (c_X12_hush l E G L_8 f_9 H_10.size u x_20 1 hG hWF Tu ⟨by decide, by decide⟩) (cwV 2 G0.2.2.2.2 g_L_law_X12_hush_89 rfl rfl rfl (by decide +kernel) ⟨(Nat.le_of_ble_eq_true rfl), (Nat.le_of_ble_eq_true rfl)⟩) (py_preV hw (C := RX12) (T := TX12) (N := 54) rfl hr_59) rfl rfl hl.1 rfl (lv_room (Nat.le_of_ble_eq_true rfl)) dL_law_707 ⟨rm_c (by omega), rm_s (by omega)⟩) (fun r_58 L_54 f_55 H_56 locs hp_57 hw => ?_)
      obtain ⟨bbr_58, hWF, kp_82, fkr_58⟩ := hp_57
      have hGI := hGI.kp hG Tx ht10 (rp_kp hG kp_82 (by decide) (by decide)) kp_82 (by decide)
      have hGM := hGM.kps hG Tu kp_82 (LK.of (by decide)) (by decide)
      have hTY := hTY.rf hG Tx ht10 kp_82 fkr_58 (by decide) (by decide)
      have hTI := hTI.rf hG Tx Tu kp_82 fkr_58 (by decide) (by decide)
      refine lv_pop G0.1 G0.2.1 dL_law_710 rfl ?_
      refine lv_goto (tgt := 1321) G0.1 G0.2.1 dL_law_711 (by decide) ?_
      refine W.widen (k := C + 8) (n := S + 256) (by omega) (by omega) ?_
      exact kk _ _ _ _ ls ⟨G, gb, nb, hG, hWF, Tx, Tu, To, hGI, hGM, hTI, hTY⟩ hw (lv_sub hl [0, 1, 2, 3, 4] rfl)
  · skip
    have tc_7 := ti_ne c_7
    refine lv_iconst (v := 1) G0.1 G0.2.1 dL_law_677 (by decide) ?_
    refine lv_goto (tgt := 682) G0.1 G0.2.1 dL_law_678 (by decide) ?_
    obtain ⟨v_89, v_90, v_91, hr_88, -⟩ := wg_11 hWF Tx
    have ht10 := fo_ty hWF (wt_11 hG Tx).2.2.2.2.2.1
    refine py_calli hw (va_runV (As := [.int x_3, .int 1]) (rest := []) G0 (c_X11_hush l E G L f H.size x x_3 1 hG hWF Tx ⟨by decide, by decide⟩ hGI) (cwV 2 G0.2.2.2.2 g_L_law_X11_hush_85 rfl rfl rfl (by decide +kernel) ⟨(Nat.le_of_ble_eq_true rfl), (Nat.le_of_ble_eq_true rfl)⟩) (py_preV hw (C := RX11) (T := TX11) (N := 16) rfl hr_88) rfl rfl hl.1 rfl (lv_room (Nat.le_of_ble_eq_true rfl)) dL_law_682 ⟨rm_c (by omega), rm_s (by omega)⟩) (fun r_87 L_83 f_84 H_85 locs hp_86 hw => ?_)
    obtain ⟨bbr_87, hWF, kp_92, hGI⟩ := hp_86
    have hGM := hGM.kps hG Tu kp_92 (LK.of (by decide)) (by decide)
    have hTY := hTY.cl hG Tx Tu kp_92 (by decide) (cls_kp hG Tx ht10 kp_92 (by decide)) (hy_same (kp_f kp_92 Tx (by decide) (by decide) (fun _ => by decide))).2
    have hTI := hTI.clx hG Tx Tu kp_92 (by decide)
    refine lv_pop G0.1 G0.2.1 dL_law_685 rfl ?_
    refine lv_aload_n G0.1 G0.2.1 dL_law_686 rfl (lv_at hl 2 rfl) ?_
    refine lv_aload_n G0.1 G0.2.1 dL_law_687 rfl (lv_at hl 4 rfl) ?_
    refine lv_iload G0.1 G0.2.1 dL_law_688 (lv_at hl 0 rfl) ?_
    refine lv_iconst (v := 1) G0.1 G0.2.1 dL_law_690 (by decide) ?_
    refine lv_iadd G0.1 G0.2.1 dL_law_691 ?_
    refine lv_topi (fun x_93 ex_93 => ?_)
    first | have tx_93 := ti_add ex_93 (by omega) (by omega) | skip
    have rg_94 : vp_in x_93 N := ti_in (by omega) (by omega)
    refine va_sld G0.1 G0.2.1 hX hbl hbA hw.2.2.2.1 rg_94 dL_law_692 ?_
    refine lv_topi (fun x_95 ex_95 => ?_)
    have Qx_95 : x_95 = x_3 := by rw [ex_95, ex_3, ex_93, ex_1]
    have qx_95 : x_95.toInt = x_3.toInt := by rw [Qx_95]
    refine lv_aload_n G0.1 G0.2.1 dL_law_693 rfl (lv_at hl 4 rfl) ?_
    refine lv_iload G0.1 G0.2.1 dL_law_694 (lv_at hl 0 rfl) ?_
    refine lv_iconst (v := 2) G0.1 G0.2.1 dL_law_696 (by decide) ?_
    refine lv_iadd G0.1 G0.2.1 dL_law_697 ?_
    refine lv_topi (fun x_96 ex_96 => ?_)
    first | have tx_96 := ti_add ex_96 (by omega) (by omega) | skip
    have rg_97 : vp_in x_96 N := ti_in (by omega) (by omega)
    refine va_sld G0.1 G0.2.1 hX hbl hbA hw.2.2.2.1 rg_97 dL_law_698 ?_
    refine lv_topi (fun x_98 ex_98 => ?_)
    have Qx_98 : x_98 = x_6 := by rw [ex_98, ex_6, ex_96, ex_4]
    have qx_98 : x_98.toInt = x_6.toInt := by rw [Qx_98]
    refine lv_if_eq (tgt := 706) G0.1 G0.2.1 dL_law_699 (by decide) (fun c_99 => ?_) (fun c_99 => ?_)
    · skip
      have tc_99 := ti_eq c_99
      refine lv_iconst (v := 0) G0.1 G0.2.1 dL_law_706 (by decide) ?_
      obtain ⟨v_106, v_107, v_108, v_109, v_110, v_111, v_112, v_113, v_114, v_115, v_116, v_117, v_118, v_119, v_120, v_121, v_122, v_123, v_124, v_125, v_126, v_127, hr_105, -⟩ := wg_12 hWF Tu
      have ht10 := fo_ty hWF (wt_11 hG Tx).2.2.2.2.2.1
      refine py_calli hw (va_runV (As := [.int x_95, .int 0]) (rest := []) G0 (c_X12_hush l E G L_83 f_84 H_85.size u x_95 0 hG hWF Tu ⟨by decide, by decide⟩) (cwV 2 G0.2.2.2.2 g_L_law_X12_hush_89 rfl rfl rfl (by decide +kernel) ⟨(Nat.le_of_ble_eq_true rfl), (Nat.le_of_ble_eq_true rfl)⟩) (py_preV hw (C := RX12) (T := TX12) (N := 54) rfl hr_105) rfl rfl hl.1 rfl (lv_room (Nat.le_of_ble_eq_true rfl)) dL_law_707 ⟨rm_c (by omega), rm_s (by omega)⟩) (fun r_104 L_100 f_101 H_102 locs hp_103 hw => ?_)
      obtain ⟨bbr_104, hWF, kp_128, fkr_104⟩ := hp_103
      have hGI := hGI.kp hG Tx ht10 (rp_kp hG kp_128 (by decide) (by decide)) kp_128 (by decide)
      have hGM := hGM.kps hG Tu kp_128 (LK.of (by decide)) (by decide)
      have hTY := hTY.rf hG Tx ht10 kp_128 fkr_104 (by decide) (by decide)
      have hTI := hTI.rf hG Tx Tu kp_128 fkr_104 (by decide) (by decide)
      refine lv_pop G0.1 G0.2.1 dL_law_710 rfl ?_
      refine lv_goto (tgt := 1321) G0.1 G0.2.1 dL_law_711 (by decide) ?_
      refine W.widen (k := C + 8) (n := S + 256) (by omega) (by omega) ?_
      exact kk _ _ _ _ ls ⟨G, gb, nb, hG, hWF, Tx, Tu, To, hGI, hGM, hTI, hTY⟩ hw (lv_sub hl [0, 1, 2, 3, 4] rfl)
    · skip
      have tc_99 := ti_ne c_99
      refine lv_iconst (v := 1) G0.1 G0.2.1 dL_law_702 (by decide) ?_
      refine lv_goto (tgt := 707) G0.1 G0.2.1 dL_law_703 (by decide) ?_
      obtain ⟨v_135, v_136, v_137, v_138, v_139, v_140, v_141, v_142, v_143, v_144, v_145, v_146, v_147, v_148, v_149, v_150, v_151, v_152, v_153, v_154, v_155, v_156, hr_134, -⟩ := wg_12 hWF Tu
      have ht10 := fo_ty hWF (wt_11 hG Tx).2.2.2.2.2.1
      refine py_calli hw (va_runV (As := [.int x_95, .int 1]) (rest := []) G0 (c_X12_hush l E G L_83 f_84 H_85.size u x_95 1 hG hWF Tu ⟨by decide, by decide⟩) (cwV 2 G0.2.2.2.2 g_L_law_X12_hush_89 rfl rfl rfl (by decide +kernel) ⟨(Nat.le_of_ble_eq_true rfl), (Nat.le_of_ble_eq_true rfl)⟩) (py_preV hw (C := RX12) (T := TX12) (N := 54) rfl hr_134) rfl rfl hl.1 rfl (lv_room (Nat.le_of_ble_eq_true rfl)) dL_law_707 ⟨rm_c (by omega), rm_s (by omega)⟩) (fun r_133 L_129 f_130 H_131 locs hp_132 hw => ?_)
      obtain ⟨bbr_133, hWF, kp_157, fkr_133⟩ := hp_132
      have hGI := hGI.kp hG Tx ht10 (rp_kp hG kp_157 (by decide) (by decide)) kp_157 (by decide)
      have hGM := hGM.kps hG Tu kp_157 (LK.of (by decide)) (by decide)
      have hTY := hTY.rf hG Tx ht10 kp_157 fkr_133 (by decide) (by decide)
      have hTI := hTI.rf hG Tx Tu kp_157 fkr_133 (by decide) (by decide)
      refine lv_pop G0.1 G0.2.1 dL_law_710 rfl ?_
      refine lv_goto (tgt := 1321) G0.1 G0.2.1 dL_law_711 (by decide) ?_
      refine W.widen (k := C + 8) (n := S + 256) (by omega) (by omega) ?_
      exact kk _ _ _ _ ls ⟨G, gb, nb, hG, hWF, Tx, Tu, To, hGI, hGM, hTI, hTY⟩ hw (lv_sub hl [0, 1, 2, 3, 4] rfl)
set_option maxHeartbeats 4000000 in
set_option maxRecDepth 100000 in
theorem lc_15 {p : Program} {e : Env} {s : State} {m : MethodId} {below : List Frame} {meth : Method} {c : Code} (l : Launch) (hst : l.stackTraces = false) {b N : Nat} {xs : Nat → Int32} (C0 : lw_At p s m meth c b N xs) (G0 : CallFix p m c cL_law 7 s #[Value.ref b] w_L_law RL) (hN : N ≤ 3072) {E : py_E} {L : List Nat} {f : py_F} {H : Heap} {locs : List Loc} (hw : py_W E (fun q : Nat => s.heap.size ≤ q) s L f H locs) {x u o : Nat} (hLW : LW E L f x u o) {i : Int32} (hi0 : 0 ≤ i.toInt) (hiN : i.toInt + 6 ≤ N) {C S : Nat} (hC : C + 8 ≤ 601024) (hS : S + 256 ≤ 7293034) {ls : Array Slot} (hl : lv_has ls 7 [(4, .int i), (3, .ref o), (2, .ref u), (1, .ref x), (0, .ref b)]) (kk : ∀ (L1 : List Nat) (f1 : py_F) (H1 : Heap) (locs1 : List Loc) (ls1 : Array Slot), LW E L1 f1 x u o → py_W E (fun q : Nat => s.heap.size ≤ q) s L1 f1 H1 locs1 → lv_has ls1 7 [(4, .int i), (3, .ref o), (2, .ref u), (1, .ref x), (0, .ref b)] → W p l e room_1 s m #[Value.ref b] below meth c H1 locs1 (C + 8) (S + 256) (lw_Z below #[Value.ref b] s) (F0 m 1321 ls1 [])) : W p l e room_1 s m #[Value.ref b] below meth c H locs (C) (S) (lw_Z below #[Value.ref b] s) (F0 m 714 ls []) := by
  obtain ⟨hx, hb, hr, hml, hown, hts, hX, hbl, hlocks, hgv⟩ := id C0
  have hbA : ¬ (fun q : Nat => s.heap.size ≤ q) b := Nat.not_le.mpr hbl
  have kcm1 : (-1 : Int32).toInt = -1 := rfl
  have kc0 : (0 : Int32).toInt = 0 := rfl
  have kc1 : (1 : Int32).toInt = 1 := rfl
  obtain ⟨G, gb, nb, hG, hWF, Tx, Tu, To, hGI, hGM, hTI, hTY⟩ := hLW
  refine lv_aload_n G0.1 G0.2.1 dL_law_714 rfl (lv_at hl 3 rfl) ?_
  obtain ⟨v_7, v_8, v_9, hr_6, -⟩ := wg_11 hWF Tx
  have ht10 := fo_ty hWF (wt_11 hG Tx).2.2.2.2.2.1
  refine py_calli hw (va_runV (As := []) (rest := []) G0 (c_X11_waiting l E G L f H.size x hG hWF Tx) (cwV 0 G0.2.2.2.2 g_L_law_X11_waiting_90 rfl rfl rfl (by decide +kernel) ⟨(Nat.le_of_ble_eq_true rfl), (Nat.le_of_ble_eq_true rfl)⟩) (py_preV hw (C := RX11) (T := TX11) (N := 16) rfl hr_6) rfl rfl hl.1 rfl (lv_room (Nat.le_of_ble_eq_true rfl)) dL_law_715 ⟨rm_c (by omega), rm_s (by omega)⟩) (fun r_5 L_1 f_2 H_3 locs hp_4 hw => ?_)
  obtain ⟨rfl, rfl⟩ := hp_4
  refine lv_pop G0.1 G0.2.1 dL_law_718 rfl ?_
  refine lv_aload_n G0.1 G0.2.1 dL_law_719 rfl (lv_at hl 2 rfl) ?_
  obtain ⟨v_16, v_17, v_18, v_19, v_20, v_21, v_22, v_23, v_24, v_25, v_26, v_27, v_28, v_29, v_30, v_31, v_32, v_33, v_34, v_35, v_36, v_37, hr_15, -⟩ := wg_12 hWF Tu
  have ht10 := fo_ty hWF (wt_11 hG Tx).2.2.2.2.2.1
  refine py_calli hw (va_runV (As := []) (rest := []) G0 (c_X12_waiting l E G L f H_3.size u hG hWF Tu) (cwV 0 G0.2.2.2.2 g_L_law_X12_waiting_93 rfl rfl rfl (by decide +kernel) ⟨(Nat.le_of_ble_eq_true rfl), (Nat.le_of_ble_eq_true rfl)⟩) (py_preV hw (C := RX12) (T := TX12) (N := 54) rfl hr_15) rfl rfl hl.1 rfl (lv_room (Nat.le_of_ble_eq_true rfl)) dL_law_720 ⟨rm_c (by omega), rm_s (by omega)⟩) (fun r_14 L_10 f_11 H_12 locs hp_13 hw => ?_)
  obtain ⟨rfl, rfl⟩ := hp_13
  refine lv_pop G0.1 G0.2.1 dL_law_723 rfl ?_
  refine lv_goto (tgt := 1321) G0.1 G0.2.1 dL_law_724 (by decide) ?_
  refine W.widen (k := C + 8) (n := S + 256) (by omega) (by omega) ?_
  exact kk _ _ _ _ ls ⟨G, gb, nb, hG, hWF, Tx, Tu, To, hGI, hGM, hTI, hTY⟩ hw (lv_sub hl [0, 1, 2, 3, 4] rfl)
set_option maxHeartbeats 4000000 in
set_option maxRecDepth 100000 in
theorem lc_16 {p : Program} {e : Env} {s : State} {m : MethodId} {below : List Frame} {meth : Method} {c : Code} (l : Launch) (hst : l.stackTraces = false) {b N : Nat} {xs : Nat → Int32} (C0 : lw_At p s m meth c b N xs) (G0 : CallFix p m c cL_law 7 s #[Value.ref b] w_L_law RL) (hN : N ≤ 3072) {E : py_E} {L : List Nat} {f : py_F} {H : Heap} {locs : List Loc} (hw : py_W E (fun q : Nat => s.heap.size ≤ q) s L f H locs) {x u o : Nat} (hLW : LW E L f x u o) {i : Int32} (hi0 : 0 ≤ i.toInt) (hiN : i.toInt + 6 ≤ N) {C S : Nat} (hC : C + 8 ≤ 601024) (hS : S + 256 ≤ 7293034) {ls : Array Slot} (hl : lv_has ls 7 [(4, .int i), (3, .ref o), (2, .ref u), (1, .ref x), (0, .ref b)]) (kk : ∀ (L1 : List Nat) (f1 : py_F) (H1 : Heap) (locs1 : List Loc) (ls1 : Array Slot), LW E L1 f1 x u o → py_W E (fun q : Nat => s.heap.size ≤ q) s L1 f1 H1 locs1 → lv_has ls1 7 [(4, .int i), (3, .ref o), (2, .ref u), (1, .ref x), (0, .ref b)] → W p l e room_1 s m #[Value.ref b] below meth c H1 locs1 (C + 8) (S + 256) (lw_Z below #[Value.ref b] s) (F0 m 1321 ls1 [])) : W p l e room_1 s m #[Value.ref b] below meth c H locs (C) (S) (lw_Z below #[Value.ref b] s) (F0 m 727 ls []) := by
  obtain ⟨hx, hb, hr, hml, hown, hts, hX, hbl, hlocks, hgv⟩ := id C0
  have hbA : ¬ (fun q : Nat => s.heap.size ≤ q) b := Nat.not_le.mpr hbl
  have kcm1 : (-1 : Int32).toInt = -1 := rfl
  have kc0 : (0 : Int32).toInt = 0 := rfl
  have kc1 : (1 : Int32).toInt = 1 := rfl
  obtain ⟨G, gb, nb, hG, hWF, Tx, Tu, To, hGI, hGM, hTI, hTY⟩ := hLW
  refine lv_aload_n G0.1 G0.2.1 dL_law_727 rfl (lv_at hl 3 rfl) ?_
  refine lv_aload_n G0.1 G0.2.1 dL_law_728 rfl (lv_at hl 4 rfl) ?_
  refine lv_iload G0.1 G0.2.1 dL_law_729 (lv_at hl 0 rfl) ?_
  refine lv_iconst (v := 1) G0.1 G0.2.1 dL_law_731 (by decide) ?_
  refine lv_iadd G0.1 G0.2.1 dL_law_732 ?_
  refine lv_topi (fun x_1 ex_1 => ?_)
  first | have tx_1 := ti_add ex_1 (by omega) (by omega) | skip
  have rg_2 : vp_in x_1 N := ti_in (by omega) (by omega)
  refine va_sld G0.1 G0.2.1 hX hbl hbA hw.2.2.2.1 rg_2 dL_law_733 ?_
  refine lv_topi (fun x_3 ex_3 => ?_)
  obtain ⟨v_10, v_11, v_12, hr_9, -⟩ := wg_11 hWF Tx
  have ht10 := fo_ty hWF (wt_11 hG Tx).2.2.2.2.2.1
  refine py_calli hw (va_runV (As := [.int x_3]) (rest := []) G0 (c_X11_most l E G L f H.size x x_3 hG hWF Tx hGI) (cwV 1 G0.2.2.2.2 g_L_law_X11_most_94 rfl rfl rfl (by decide +kernel) ⟨(Nat.le_of_ble_eq_true rfl), (Nat.le_of_ble_eq_true rfl)⟩) (py_preV hw (C := RX11) (T := TX11) (N := 16) rfl hr_9) rfl rfl hl.1 rfl (lv_room (Nat.le_of_ble_eq_true rfl)) dL_law_734 ⟨rm_c (by omega), rm_s (by omega)⟩) (fun r_8 L_4 f_5 H_6 locs hp_7 hw => ?_)
  obtain ⟨hWF, kp_13, hGI⟩ := hp_7
  have hGM := hGM.kps hG Tu kp_13 (LK.of (by decide)) (by decide)
  have hTY := hTY.cl hG Tx Tu kp_13 (by decide) (cls_kp hG Tx ht10 kp_13 (by decide)) (hy_same (kp_f kp_13 Tx (by decide) (by decide) (fun _ => by decide))).2
  have hTI := hTI.clx hG Tx Tu kp_13 (by decide)
  refine lv_pop G0.1 G0.2.1 dL_law_737 rfl ?_
  refine lv_aload_n G0.1 G0.2.1 dL_law_738 rfl (lv_at hl 2 rfl) ?_
  refine lv_aload_n G0.1 G0.2.1 dL_law_739 rfl (lv_at hl 4 rfl) ?_
  refine lv_iload G0.1 G0.2.1 dL_law_740 (lv_at hl 0 rfl) ?_
  refine lv_iconst (v := 1) G0.1 G0.2.1 dL_law_742 (by decide) ?_
  refine lv_iadd G0.1 G0.2.1 dL_law_743 ?_
  refine lv_topi (fun x_14 ex_14 => ?_)
  first | have tx_14 := ti_add ex_14 (by omega) (by omega) | skip
  have rg_15 : vp_in x_14 N := ti_in (by omega) (by omega)
  refine va_sld G0.1 G0.2.1 hX hbl hbA hw.2.2.2.1 rg_15 dL_law_744 ?_
  refine lv_topi (fun x_16 ex_16 => ?_)
  have Qx_16 : x_16 = x_3 := by rw [ex_16, ex_3, ex_14, ex_1]
  have qx_16 : x_16.toInt = x_3.toInt := by rw [Qx_16]
  obtain ⟨v_23, v_24, v_25, v_26, v_27, v_28, v_29, v_30, v_31, v_32, v_33, v_34, v_35, v_36, v_37, v_38, v_39, v_40, v_41, v_42, v_43, v_44, hr_22, -⟩ := wg_12 hWF Tu
  have ht10 := fo_ty hWF (wt_11 hG Tx).2.2.2.2.2.1
  refine py_calli hw (va_runV (As := [.int x_16]) (rest := []) G0 (c_X12_most l E G L_4 f_5 H_6.size u x_16 hG hWF Tu) (cwV 1 G0.2.2.2.2 g_L_law_X12_most_97 rfl rfl rfl (by decide +kernel) ⟨(Nat.le_of_ble_eq_true rfl), (Nat.le_of_ble_eq_true rfl)⟩) (py_preV hw (C := RX12) (T := TX12) (N := 54) rfl hr_22) rfl rfl hl.1 rfl (lv_room (Nat.le_of_ble_eq_true rfl)) dL_law_745 ⟨rm_c (by omega), rm_s (by omega)⟩) (fun r_21 L_17 f_18 H_19 locs hp_20 hw => ?_)
  obtain ⟨rfl, rfl⟩ := hp_20
  refine lv_pop G0.1 G0.2.1 dL_law_748 rfl ?_
  refine lv_goto (tgt := 1321) G0.1 G0.2.1 dL_law_749 (by decide) ?_
  refine W.widen (k := C + 8) (n := S + 256) (by omega) (by omega) ?_
  exact kk _ _ _ _ ls ⟨G, gb, nb, hG, hWF, Tx, Tu, To, hGI, hGM, hTI, hTY⟩ hw (lv_sub hl [0, 1, 2, 3, 4] rfl)
