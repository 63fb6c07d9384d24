theorem dLw_0 : decode code 0 = .ok (.new 7, 3) := by decide +kernel
theorem dLw_3 : decode code 3 = .ok (.dup, 1) := by decide +kernel
theorem dLw_4 : decode code 4 = .ok (.invokespecial 9, 3) := by decide +kernel
theorem dLw_7 : decode code 7 = .ok (.astore_n 1, 1) := by decide +kernel
theorem dLw_8 : decode code 8 = .ok (.new 10, 3) := by decide +kernel
theorem dLw_11 : decode code 11 = .ok (.dup, 1) := by decide +kernel
theorem dLw_12 : decode code 12 = .ok (.invokespecial 12, 3) := by decide +kernel
theorem dLw_15 : decode code 15 = .ok (.astore_n 2, 1) := by decide +kernel
theorem dLw_16 : decode code 16 = .ok (.iconst 0, 1) := by decide +kernel
theorem dLw_17 : decode code 17 = .ok (.istore_n 3, 1) := by decide +kernel
theorem dLw_18 : decode code 18 = .ok (.iload_n 3, 1) := by decide +kernel
theorem dLw_19 : decode code 19 = .ok (.aload_n 0, 1) := by decide +kernel
theorem dLw_20 : decode code 20 = .ok (.arraylength, 1) := by decide +kernel
theorem dLw_21 : decode code 21 = .ok (.bipush 6, 2) := by decide +kernel
theorem dLw_23 : decode code 23 = .ok (.isub, 1) := by decide +kernel
theorem dLw_24 : decode code 24 = .ok (.if_icmp .gt 1462, 3) := by decide +kernel
theorem dLw_27 : decode code 27 = .ok (.aload_n 0, 1) := by decide +kernel
theorem dLw_28 : decode code 28 = .ok (.iload_n 3, 1) := by decide +kernel
theorem dLw_29 : decode code 29 = .ok (.iaload, 1) := by decide +kernel
theorem dLw_30 : decode code 30 = .ok (.bipush 63, 2) := by decide +kernel
theorem dLw_32 : decode code 32 = .ok (.iand, 1) := by decide +kernel
theorem dLw_33 : decode code 33 = .ok (.tableswitch 1447 0 42 #[187, 220, 243, 276, 309, 352, 395, 428, 461, 484, 507, 530, 553, 576, 599, 642, 665, 688, 711, 734, 757, 790, 823, 856, 889, 922, 955, 978, 1011, 1034, 1067, 1080, 1093, 1136, 1210, 1273, 1296, 1329, 1362, 1375, 1388, 1401, 1424], 187) := by decide +kernel
theorem dLw_220 : decode code 220 = .ok (.aload_n 1, 1) := by decide +kernel
theorem dLw_221 : decode code 221 = .ok (.aload_n 0, 1) := by decide +kernel
theorem dLw_222 : decode code 222 = .ok (.iload_n 3, 1) := by decide +kernel
theorem dLw_223 : decode code 223 = .ok (.iconst 1, 1) := by decide +kernel
theorem dLw_224 : decode code 224 = .ok (.iadd, 1) := by decide +kernel
theorem dLw_225 : decode code 225 = .ok (.iaload, 1) := by decide +kernel
theorem dLw_226 : decode code 226 = .ok (.aload_n 0, 1) := by decide +kernel
theorem dLw_227 : decode code 227 = .ok (.iload_n 3, 1) := by decide +kernel
theorem dLw_228 : decode code 228 = .ok (.iconst 2, 1) := by decide +kernel
theorem dLw_229 : decode code 229 = .ok (.iadd, 1) := by decide +kernel
theorem dLw_230 : decode code 230 = .ok (.iaload, 1) := by decide +kernel
theorem dLw_231 : decode code 231 = .ok (.invokevirtual 13, 3) := by decide +kernel
theorem dLw_234 : decode code 234 = .ok (.aload_n 2, 1) := by decide +kernel
theorem dLw_235 : decode code 235 = .ok (.aload_n 0, 1) := by decide +kernel
theorem dLw_236 : decode code 236 = .ok (.iload_n 3, 1) := by decide +kernel
theorem dLw_237 : decode code 237 = .ok (.iconst 1, 1) := by decide +kernel
theorem dLw_238 : decode code 238 = .ok (.iadd, 1) := by decide +kernel
theorem dLw_239 : decode code 239 = .ok (.iaload, 1) := by decide +kernel
theorem dLw_240 : decode code 240 = .ok (.aload_n 0, 1) := by decide +kernel
theorem dLw_241 : decode code 241 = .ok (.iload_n 3, 1) := by decide +kernel
theorem dLw_242 : decode code 242 = .ok (.iconst 2, 1) := by decide +kernel
theorem dLw_243 : decode code 243 = .ok (.iadd, 1) := by decide +kernel
theorem dLw_244 : decode code 244 = .ok (.iaload, 1) := by decide +kernel
theorem dLw_245 : decode code 245 = .ok (.invokevirtual 17, 3) := by decide +kernel
theorem dLw_248 : decode code 248 = .ok (.if_icmp .eq 1232, 3) := by decide +kernel
theorem dLw_251 : decode code 251 = .ok (.iconst 0, 1) := by decide +kernel
theorem dLw_252 : decode code 252 = .ok (.ireturn, 1) := by decide +kernel
theorem dLw_253 : decode code 253 = .ok (.aload_n 1, 1) := by decide +kernel
theorem dLw_254 : decode code 254 = .ok (.aload_n 0, 1) := by decide +kernel
theorem dLw_255 : decode code 255 = .ok (.iload_n 3, 1) := by decide +kernel
theorem dLw_256 : decode code 256 = .ok (.iconst 1, 1) := by decide +kernel
theorem dLw_257 : decode code 257 = .ok (.iadd, 1) := by decide +kernel
theorem dLw_258 : decode code 258 = .ok (.iaload, 1) := by decide +kernel
theorem dLw_259 : decode code 259 = .ok (.invokevirtual 18, 3) := by decide +kernel
theorem dLw_262 : decode code 262 = .ok (.aload_n 2, 1) := by decide +kernel
theorem dLw_263 : decode code 263 = .ok (.aload_n 0, 1) := by decide +kernel
theorem dLw_264 : decode code 264 = .ok (.iload_n 3, 1) := by decide +kernel
theorem dLw_265 : decode code 265 = .ok (.iconst 1, 1) := by decide +kernel
theorem dLw_266 : decode code 266 = .ok (.iadd, 1) := by decide +kernel
theorem dLw_267 : decode code 267 = .ok (.iaload, 1) := by decide +kernel
theorem dLw_268 : decode code 268 = .ok (.invokevirtual 22, 3) := by decide +kernel
theorem dLw_271 : decode code 271 = .ok (.if_icmp .eq 1209, 3) := by decide +kernel
theorem dLw_274 : decode code 274 = .ok (.iconst 0, 1) := by decide +kernel
theorem dLw_275 : decode code 275 = .ok (.ireturn, 1) := by decide +kernel
theorem dLw_276 : decode code 276 = .ok (.aload_n 1, 1) := by decide +kernel
theorem dLw_277 : decode code 277 = .ok (.aload_n 0, 1) := by decide +kernel
theorem dLw_278 : decode code 278 = .ok (.iload_n 3, 1) := by decide +kernel
theorem dLw_279 : decode code 279 = .ok (.iconst 1, 1) := by decide +kernel
theorem dLw_280 : decode code 280 = .ok (.iadd, 1) := by decide +kernel
theorem dLw_281 : decode code 281 = .ok (.iaload, 1) := by decide +kernel
theorem dLw_282 : decode code 282 = .ok (.aload_n 0, 1) := by decide +kernel
theorem dLw_283 : decode code 283 = .ok (.iload_n 3, 1) := by decide +kernel
theorem dLw_284 : decode code 284 = .ok (.iconst 2, 1) := by decide +kernel
theorem dLw_285 : decode code 285 = .ok (.iadd, 1) := by decide +kernel
theorem dLw_286 : decode code 286 = .ok (.iaload, 1) := by decide +kernel
theorem dLw_287 : decode code 287 = .ok (.invokevirtual 23, 3) := by decide +kernel
theorem dLw_290 : decode code 290 = .ok (.aload_n 2, 1) := by decide +kernel
theorem dLw_291 : decode code 291 = .ok (.aload_n 0, 1) := by decide +kernel
theorem dLw_292 : decode code 292 = .ok (.iload_n 3, 1) := by decide +kernel
theorem dLw_293 : decode code 293 = .ok (.iconst 1, 1) := by decide +kernel
theorem dLw_294 : decode code 294 = .ok (.iadd, 1) := by decide +kernel
theorem dLw_295 : decode code 295 = .ok (.iaload, 1) := by decide +kernel
theorem dLw_296 : decode code 296 = .ok (.aload_n 0, 1) := by decide +kernel
theorem dLw_297 : decode code 297 = .ok (.iload_n 3, 1) := by decide +kernel
theorem dLw_298 : decode code 298 = .ok (.iconst 2, 1) := by decide +kernel
theorem dLw_299 : decode code 299 = .ok (.iadd, 1) := by decide +kernel
theorem dLw_300 : decode code 300 = .ok (.iaload, 1) := by decide +kernel
theorem dLw_301 : decode code 301 = .ok (.invokevirtual 26, 3) := by decide +kernel
theorem dLw_304 : decode code 304 = .ok (.if_icmp .eq 1176, 3) := by decide +kernel
theorem dLw_307 : decode code 307 = .ok (.iconst 0, 1) := by decide +kernel
theorem dLw_308 : decode code 308 = .ok (.ireturn, 1) := by decide +kernel
theorem dLw_309 : decode code 309 = .ok (.aload_n 1, 1) := by decide +kernel
theorem dLw_310 : decode code 310 = .ok (.aload_n 0, 1) := by decide +kernel
theorem dLw_311 : decode code 311 = .ok (.iload_n 3, 1) := by decide +kernel
theorem dLw_312 : decode code 312 = .ok (.iconst 1, 1) := by decide +kernel
theorem dLw_313 : decode code 313 = .ok (.iadd, 1) := by decide +kernel
theorem dLw_314 : decode code 314 = .ok (.iaload, 1) := by decide +kernel
theorem dLw_315 : decode code 315 = .ok (.aload_n 0, 1) := by decide +kernel
theorem dLw_316 : decode code 316 = .ok (.iload_n 3, 1) := by decide +kernel
theorem dLw_317 : decode code 317 = .ok (.iconst 2, 1) := by decide +kernel
theorem dLw_318 : decode code 318 = .ok (.iadd, 1) := by decide +kernel
theorem dLw_319 : decode code 319 = .ok (.iaload, 1) := by decide +kernel
theorem dLw_320 : decode code 320 = .ok (.invokevirtual 27, 3) := by decide +kernel
theorem dLw_323 : decode code 323 = .ok (.aload_n 2, 1) := by decide +kernel
theorem dLw_324 : decode code 324 = .ok (.aload_n 0, 1) := by decide +kernel
theorem dLw_325 : decode code 325 = .ok (.iload_n 3, 1) := by decide +kernel
theorem dLw_326 : decode code 326 = .ok (.iconst 1, 1) := by decide +kernel
theorem dLw_327 : decode code 327 = .ok (.iadd, 1) := by decide +kernel
theorem dLw_328 : decode code 328 = .ok (.iaload, 1) := by decide +kernel
theorem dLw_329 : decode code 329 = .ok (.aload_n 0, 1) := by decide +kernel
theorem dLw_330 : decode code 330 = .ok (.iload_n 3, 1) := by decide +kernel
theorem dLw_331 : decode code 331 = .ok (.iconst 2, 1) := by decide +kernel
theorem dLw_332 : decode code 332 = .ok (.iadd, 1) := by decide +kernel
theorem dLw_333 : decode code 333 = .ok (.iaload, 1) := by decide +kernel
theorem dLw_334 : decode code 334 = .ok (.invokevirtual 30, 3) := by decide +kernel
theorem dLw_337 : decode code 337 = .ok (.if_icmp .eq 1143, 3) := by decide +kernel
theorem dLw_340 : decode code 340 = .ok (.iconst 0, 1) := by decide +kernel
theorem dLw_341 : decode code 341 = .ok (.ireturn, 1) := by decide +kernel
theorem dLw_342 : decode code 342 = .ok (.aload_n 1, 1) := by decide +kernel
theorem dLw_343 : decode code 343 = .ok (.aload_n 0, 1) := by decide +kernel
theorem dLw_344 : decode code 344 = .ok (.iload_n 3, 1) := by decide +kernel
theorem dLw_345 : decode code 345 = .ok (.iconst 1, 1) := by decide +kernel
theorem dLw_346 : decode code 346 = .ok (.iadd, 1) := by decide +kernel
theorem dLw_347 : decode code 347 = .ok (.iaload, 1) := by decide +kernel
theorem dLw_348 : decode code 348 = .ok (.aload_n 0, 1) := by decide +kernel
theorem dLw_349 : decode code 349 = .ok (.iload_n 3, 1) := by decide +kernel
theorem dLw_350 : decode code 350 = .ok (.iconst 2, 1) := by decide +kernel
theorem dLw_351 : decode code 351 = .ok (.iadd, 1) := by decide +kernel
theorem dLw_352 : decode code 352 = .ok (.iaload, 1) := by decide +kernel
theorem dLw_353 : decode code 353 = .ok (.aload_n 0, 1) := by decide +kernel
theorem dLw_354 : decode code 354 = .ok (.iload_n 3, 1) := by decide +kernel
theorem dLw_355 : decode code 355 = .ok (.iconst 3, 1) := by decide +kernel
theorem dLw_356 : decode code 356 = .ok (.iadd, 1) := by decide +kernel
theorem dLw_357 : decode code 357 = .ok (.iaload, 1) := by decide +kernel
theorem dLw_358 : decode code 358 = .ok (.invokevirtual 31, 3) := by decide +kernel
theorem dLw_361 : decode code 361 = .ok (.aload_n 2, 1) := by decide +kernel
theorem dLw_362 : decode code 362 = .ok (.aload_n 0, 1) := by decide +kernel
theorem dLw_363 : decode code 363 = .ok (.iload_n 3, 1) := by decide +kernel
theorem dLw_364 : decode code 364 = .ok (.iconst 1, 1) := by decide +kernel
theorem dLw_365 : decode code 365 = .ok (.iadd, 1) := by decide +kernel
theorem dLw_366 : decode code 366 = .ok (.iaload, 1) := by decide +kernel
theorem dLw_367 : decode code 367 = .ok (.aload_n 0, 1) := by decide +kernel
theorem dLw_368 : decode code 368 = .ok (.iload_n 3, 1) := by decide +kernel
theorem dLw_369 : decode code 369 = .ok (.iconst 2, 1) := by decide +kernel
theorem dLw_370 : decode code 370 = .ok (.iadd, 1) := by decide +kernel
theorem dLw_371 : decode code 371 = .ok (.iaload, 1) := by decide +kernel
theorem dLw_372 : decode code 372 = .ok (.aload_n 0, 1) := by decide +kernel
theorem dLw_373 : decode code 373 = .ok (.iload_n 3, 1) := by decide +kernel
theorem dLw_374 : decode code 374 = .ok (.iconst 3, 1) := by decide +kernel
theorem dLw_375 : decode code 375 = .ok (.iadd, 1) := by decide +kernel
theorem dLw_376 : decode code 376 = .ok (.iaload, 1) := by decide +kernel
theorem dLw_377 : decode code 377 = .ok (.invokevirtual 35, 3) := by decide +kernel
theorem dLw_380 : decode code 380 = .ok (.if_icmp .eq 1100, 3) := by decide +kernel
theorem dLw_383 : decode code 383 = .ok (.iconst 0, 1) := by decide +kernel
theorem dLw_384 : decode code 384 = .ok (.ireturn, 1) := by decide +kernel
theorem dLw_385 : decode code 385 = .ok (.aload_n 1, 1) := by decide +kernel
theorem dLw_386 : decode code 386 = .ok (.aload_n 0, 1) := by decide +kernel
theorem dLw_387 : decode code 387 = .ok (.iload_n 3, 1) := by decide +kernel
theorem dLw_388 : decode code 388 = .ok (.iconst 1, 1) := by decide +kernel
theorem dLw_389 : decode code 389 = .ok (.iadd, 1) := by decide +kernel
theorem dLw_390 : decode code 390 = .ok (.iaload, 1) := by decide +kernel
theorem dLw_391 : decode code 391 = .ok (.aload_n 0, 1) := by decide +kernel
theorem dLw_392 : decode code 392 = .ok (.iload_n 3, 1) := by decide +kernel
theorem dLw_393 : decode code 393 = .ok (.iconst 2, 1) := by decide +kernel
theorem dLw_394 : decode code 394 = .ok (.iadd, 1) := by decide +kernel
theorem dLw_395 : decode code 395 = .ok (.iaload, 1) := by decide +kernel
theorem dLw_396 : decode code 396 = .ok (.aload_n 0, 1) := by decide +kernel
theorem dLw_397 : decode code 397 = .ok (.iload_n 3, 1) := by decide +kernel
theorem dLw_398 : decode code 398 = .ok (.iconst 3, 1) := by decide +kernel
theorem dLw_399 : decode code 399 = .ok (.iadd, 1) := by decide +kernel
theorem dLw_400 : decode code 400 = .ok (.iaload, 1) := by decide +kernel
theorem dLw_401 : decode code 401 = .ok (.invokevirtual 36, 3) := by decide +kernel
theorem dLw_404 : decode code 404 = .ok (.aload_n 2, 1) := by decide +kernel
theorem dLw_405 : decode code 405 = .ok (.aload_n 0, 1) := by decide +kernel
theorem dLw_406 : decode code 406 = .ok (.iload_n 3, 1) := by decide +kernel
theorem dLw_407 : decode code 407 = .ok (.iconst 1, 1) := by decide +kernel
theorem dLw_408 : decode code 408 = .ok (.iadd, 1) := by decide +kernel
theorem dLw_409 : decode code 409 = .ok (.iaload, 1) := by decide +kernel
theorem dLw_410 : decode code 410 = .ok (.aload_n 0, 1) := by decide +kernel
theorem dLw_411 : decode code 411 = .ok (.iload_n 3, 1) := by decide +kernel
theorem dLw_412 : decode code 412 = .ok (.iconst 2, 1) := by decide +kernel
theorem dLw_413 : decode code 413 = .ok (.iadd, 1) := by decide +kernel
theorem dLw_414 : decode code 414 = .ok (.iaload, 1) := by decide +kernel
theorem dLw_415 : decode code 415 = .ok (.aload_n 0, 1) := by decide +kernel
theorem dLw_416 : decode code 416 = .ok (.iload_n 3, 1) := by decide +kernel
theorem dLw_417 : decode code 417 = .ok (.iconst 3, 1) := by decide +kernel
theorem dLw_418 : decode code 418 = .ok (.iadd, 1) := by decide +kernel
theorem dLw_419 : decode code 419 = .ok (.iaload, 1) := by decide +kernel
theorem dLw_420 : decode code 420 = .ok (.invokevirtual 39, 3) := by decide +kernel
theorem dLw_423 : decode code 423 = .ok (.if_icmp .eq 1057, 3) := by decide +kernel
theorem dLw_426 : decode code 426 = .ok (.iconst 0, 1) := by decide +kernel
theorem dLw_427 : decode code 427 = .ok (.ireturn, 1) := by decide +kernel
theorem dLw_428 : decode code 428 = .ok (.aload_n 1, 1) := by decide +kernel
theorem dLw_429 : decode code 429 = .ok (.aload_n 0, 1) := by decide +kernel
theorem dLw_430 : decode code 430 = .ok (.iload_n 3, 1) := by decide +kernel
theorem dLw_431 : decode code 431 = .ok (.iconst 1, 1) := by decide +kernel
theorem dLw_432 : decode code 432 = .ok (.iadd, 1) := by decide +kernel
theorem dLw_433 : decode code 433 = .ok (.iaload, 1) := by decide +kernel
theorem dLw_434 : decode code 434 = .ok (.aload_n 0, 1) := by decide +kernel
theorem dLw_435 : decode code 435 = .ok (.iload_n 3, 1) := by decide +kernel
theorem dLw_436 : decode code 436 = .ok (.iconst 2, 1) := by decide +kernel
theorem dLw_437 : decode code 437 = .ok (.iadd, 1) := by decide +kernel
theorem dLw_438 : decode code 438 = .ok (.iaload, 1) := by decide +kernel
theorem dLw_439 : decode code 439 = .ok (.invokevirtual 40, 3) := by decide +kernel
theorem dLw_442 : decode code 442 = .ok (.aload_n 2, 1) := by decide +kernel
theorem dLw_443 : decode code 443 = .ok (.aload_n 0, 1) := by decide +kernel
theorem dLw_444 : decode code 444 = .ok (.iload_n 3, 1) := by decide +kernel
theorem dLw_445 : decode code 445 = .ok (.iconst 1, 1) := by decide +kernel
theorem dLw_446 : decode code 446 = .ok (.iadd, 1) := by decide +kernel
theorem dLw_447 : decode code 447 = .ok (.iaload, 1) := by decide +kernel
theorem dLw_448 : decode code 448 = .ok (.aload_n 0, 1) := by decide +kernel
theorem dLw_449 : decode code 449 = .ok (.iload_n 3, 1) := by decide +kernel
theorem dLw_450 : decode code 450 = .ok (.iconst 2, 1) := by decide +kernel
theorem dLw_451 : decode code 451 = .ok (.iadd, 1) := by decide +kernel
theorem dLw_452 : decode code 452 = .ok (.iaload, 1) := by decide +kernel
theorem dLw_453 : decode code 453 = .ok (.invokevirtual 43, 3) := by decide +kernel
theorem dLw_456 : decode code 456 = .ok (.if_icmp .eq 1024, 3) := by decide +kernel
theorem dLw_459 : decode code 459 = .ok (.iconst 0, 1) := by decide +kernel
theorem dLw_460 : decode code 460 = .ok (.ireturn, 1) := by decide +kernel
theorem dLw_461 : decode code 461 = .ok (.aload_n 1, 1) := by decide +kernel
theorem dLw_462 : decode code 462 = .ok (.aload_n 0, 1) := by decide +kernel
theorem dLw_463 : decode code 463 = .ok (.iload_n 3, 1) := by decide +kernel
theorem dLw_464 : decode code 464 = .ok (.iconst 1, 1) := by decide +kernel
theorem dLw_465 : decode code 465 = .ok (.iadd, 1) := by decide +kernel
theorem dLw_466 : decode code 466 = .ok (.iaload, 1) := by decide +kernel
theorem dLw_467 : decode code 467 = .ok (.aload_n 0, 1) := by decide +kernel
theorem dLw_468 : decode code 468 = .ok (.iload_n 3, 1) := by decide +kernel
theorem dLw_469 : decode code 469 = .ok (.iconst 2, 1) := by decide +kernel
theorem dLw_470 : decode code 470 = .ok (.iadd, 1) := by decide +kernel
theorem dLw_471 : decode code 471 = .ok (.iaload, 1) := by decide +kernel
theorem dLw_472 : decode code 472 = .ok (.invokevirtual 44, 3) := by decide +kernel
theorem dLw_475 : decode code 475 = .ok (.aload_n 2, 1) := by decide +kernel
theorem dLw_476 : decode code 476 = .ok (.aload_n 0, 1) := by decide +kernel
theorem dLw_477 : decode code 477 = .ok (.iload_n 3, 1) := by decide +kernel
theorem dLw_478 : decode code 478 = .ok (.iconst 1, 1) := by decide +kernel
theorem dLw_479 : decode code 479 = .ok (.iadd, 1) := by decide +kernel
theorem dLw_480 : decode code 480 = .ok (.iaload, 1) := by decide +kernel
theorem dLw_481 : decode code 481 = .ok (.aload_n 0, 1) := by decide +kernel
theorem dLw_482 : decode code 482 = .ok (.iload_n 3, 1) := by decide +kernel
theorem dLw_483 : decode code 483 = .ok (.iconst 2, 1) := by decide +kernel
theorem dLw_484 : decode code 484 = .ok (.iadd, 1) := by decide +kernel
theorem dLw_485 : decode code 485 = .ok (.iaload, 1) := by decide +kernel
theorem dLw_486 : decode code 486 = .ok (.invokevirtual 47, 3) := by decide +kernel
theorem dLw_489 : decode code 489 = .ok (.if_icmp .eq 991, 3) := by decide +kernel
theorem dLw_492 : decode code 492 = .ok (.iconst 0, 1) := by decide +kernel
theorem dLw_493 : decode code 493 = .ok (.ireturn, 1) := by decide +kernel
theorem dLw_494 : decode code 494 = .ok (.aload_n 1, 1) := by decide +kernel
theorem dLw_495 : decode code 495 = .ok (.aload_n 0, 1) := by decide +kernel
theorem dLw_496 : decode code 496 = .ok (.iload_n 3, 1) := by decide +kernel
theorem dLw_497 : decode code 497 = .ok (.iconst 1, 1) := by decide +kernel
theorem dLw_498 : decode code 498 = .ok (.iadd, 1) := by decide +kernel
theorem dLw_499 : decode code 499 = .ok (.iaload, 1) := by decide +kernel
theorem dLw_500 : decode code 500 = .ok (.invokevirtual 48, 3) := by decide +kernel
theorem dLw_503 : decode code 503 = .ok (.aload_n 2, 1) := by decide +kernel
theorem dLw_504 : decode code 504 = .ok (.aload_n 0, 1) := by decide +kernel
theorem dLw_505 : decode code 505 = .ok (.iload_n 3, 1) := by decide +kernel
theorem dLw_506 : decode code 506 = .ok (.iconst 1, 1) := by decide +kernel
theorem dLw_507 : decode code 507 = .ok (.iadd, 1) := by decide +kernel
theorem dLw_508 : decode code 508 = .ok (.iaload, 1) := by decide +kernel
theorem dLw_509 : decode code 509 = .ok (.invokevirtual 51, 3) := by decide +kernel
theorem dLw_512 : decode code 512 = .ok (.if_icmp .eq 968, 3) := by decide +kernel
theorem dLw_515 : decode code 515 = .ok (.iconst 0, 1) := by decide +kernel
theorem dLw_516 : decode code 516 = .ok (.ireturn, 1) := by decide +kernel
theorem dLw_517 : decode code 517 = .ok (.aload_n 1, 1) := by decide +kernel
theorem dLw_518 : decode code 518 = .ok (.aload_n 0, 1) := by decide +kernel
theorem dLw_519 : decode code 519 = .ok (.iload_n 3, 1) := by decide +kernel
theorem dLw_520 : decode code 520 = .ok (.iconst 1, 1) := by decide +kernel
theorem dLw_521 : decode code 521 = .ok (.iadd, 1) := by decide +kernel
theorem dLw_522 : decode code 522 = .ok (.iaload, 1) := by decide +kernel
theorem dLw_523 : decode code 523 = .ok (.invokevirtual 52, 3) := by decide +kernel
theorem dLw_526 : decode code 526 = .ok (.aload_n 2, 1) := by decide +kernel
theorem dLw_527 : decode code 527 = .ok (.aload_n 0, 1) := by decide +kernel
theorem dLw_528 : decode code 528 = .ok (.iload_n 3, 1) := by decide +kernel
theorem dLw_529 : decode code 529 = .ok (.iconst 1, 1) := by decide +kernel
theorem dLw_530 : decode code 530 = .ok (.iadd, 1) := by decide +kernel
theorem dLw_531 : decode code 531 = .ok (.iaload, 1) := by decide +kernel
theorem dLw_532 : decode code 532 = .ok (.invokevirtual 55, 3) := by decide +kernel
theorem dLw_535 : decode code 535 = .ok (.if_icmp .eq 945, 3) := by decide +kernel
theorem dLw_538 : decode code 538 = .ok (.iconst 0, 1) := by decide +kernel
theorem dLw_539 : decode code 539 = .ok (.ireturn, 1) := by decide +kernel
theorem dLw_540 : decode code 540 = .ok (.aload_n 1, 1) := by decide +kernel
theorem dLw_541 : decode code 541 = .ok (.aload_n 0, 1) := by decide +kernel
theorem dLw_542 : decode code 542 = .ok (.iload_n 3, 1) := by decide +kernel
theorem dLw_543 : decode code 543 = .ok (.iconst 1, 1) := by decide +kernel
theorem dLw_544 : decode code 544 = .ok (.iadd, 1) := by decide +kernel
theorem dLw_545 : decode code 545 = .ok (.iaload, 1) := by decide +kernel
theorem dLw_546 : decode code 546 = .ok (.invokevirtual 56, 3) := by decide +kernel
theorem dLw_549 : decode code 549 = .ok (.aload_n 2, 1) := by decide +kernel
theorem dLw_550 : decode code 550 = .ok (.aload_n 0, 1) := by decide +kernel
theorem dLw_551 : decode code 551 = .ok (.iload_n 3, 1) := by decide +kernel
theorem dLw_552 : decode code 552 = .ok (.iconst 1, 1) := by decide +kernel
theorem dLw_553 : decode code 553 = .ok (.iadd, 1) := by decide +kernel
theorem dLw_554 : decode code 554 = .ok (.iaload, 1) := by decide +kernel
theorem dLw_555 : decode code 555 = .ok (.invokevirtual 59, 3) := by decide +kernel
theorem dLw_558 : decode code 558 = .ok (.if_icmp .eq 922, 3) := by decide +kernel
theorem dLw_561 : decode code 561 = .ok (.iconst 0, 1) := by decide +kernel
theorem dLw_562 : decode code 562 = .ok (.ireturn, 1) := by decide +kernel
theorem dLw_563 : decode code 563 = .ok (.aload_n 1, 1) := by decide +kernel
theorem dLw_564 : decode code 564 = .ok (.aload_n 0, 1) := by decide +kernel
theorem dLw_565 : decode code 565 = .ok (.iload_n 3, 1) := by decide +kernel
theorem dLw_566 : decode code 566 = .ok (.iconst 1, 1) := by decide +kernel
theorem dLw_567 : decode code 567 = .ok (.iadd, 1) := by decide +kernel
theorem dLw_568 : decode code 568 = .ok (.iaload, 1) := by decide +kernel
theorem dLw_569 : decode code 569 = .ok (.invokevirtual 60, 3) := by decide +kernel
theorem dLw_572 : decode code 572 = .ok (.aload_n 2, 1) := by decide +kernel
theorem dLw_573 : decode code 573 = .ok (.aload_n 0, 1) := by decide +kernel
theorem dLw_574 : decode code 574 = .ok (.iload_n 3, 1) := by decide +kernel
theorem dLw_575 : decode code 575 = .ok (.iconst 1, 1) := by decide +kernel
theorem dLw_576 : decode code 576 = .ok (.iadd, 1) := by decide +kernel
theorem dLw_577 : decode code 577 = .ok (.iaload, 1) := by decide +kernel
theorem dLw_578 : decode code 578 = .ok (.invokevirtual 63, 3) := by decide +kernel
theorem dLw_581 : decode code 581 = .ok (.if_icmp .eq 899, 3) := by decide +kernel
theorem dLw_584 : decode code 584 = .ok (.iconst 0, 1) := by decide +kernel
theorem dLw_585 : decode code 585 = .ok (.ireturn, 1) := by decide +kernel
theorem dLw_586 : decode code 586 = .ok (.aload_n 1, 1) := by decide +kernel
theorem dLw_587 : decode code 587 = .ok (.aload_n 0, 1) := by decide +kernel
theorem dLw_588 : decode code 588 = .ok (.iload_n 3, 1) := by decide +kernel
theorem dLw_589 : decode code 589 = .ok (.iconst 1, 1) := by decide +kernel
theorem dLw_590 : decode code 590 = .ok (.iadd, 1) := by decide +kernel
theorem dLw_591 : decode code 591 = .ok (.iaload, 1) := by decide +kernel
theorem dLw_592 : decode code 592 = .ok (.invokevirtual 64, 3) := by decide +kernel
theorem dLw_595 : decode code 595 = .ok (.aload_n 2, 1) := by decide +kernel
theorem dLw_596 : decode code 596 = .ok (.aload_n 0, 1) := by decide +kernel
theorem dLw_597 : decode code 597 = .ok (.iload_n 3, 1) := by decide +kernel
theorem dLw_598 : decode code 598 = .ok (.iconst 1, 1) := by decide +kernel
theorem dLw_599 : decode code 599 = .ok (.iadd, 1) := by decide +kernel
theorem dLw_600 : decode code 600 = .ok (.iaload, 1) := by decide +kernel
theorem dLw_601 : decode code 601 = .ok (.invokevirtual 67, 3) := by decide +kernel
theorem dLw_604 : decode code 604 = .ok (.if_icmp .eq 876, 3) := by decide +kernel
theorem dLw_607 : decode code 607 = .ok (.iconst 0, 1) := by decide +kernel
theorem dLw_608 : decode code 608 = .ok (.ireturn, 1) := by decide +kernel
theorem dLw_609 : decode code 609 = .ok (.aload_n 1, 1) := by decide +kernel
theorem dLw_610 : decode code 610 = .ok (.aload_n 0, 1) := by decide +kernel
theorem dLw_611 : decode code 611 = .ok (.iload_n 3, 1) := by decide +kernel
theorem dLw_612 : decode code 612 = .ok (.iconst 1, 1) := by decide +kernel
theorem dLw_613 : decode code 613 = .ok (.iadd, 1) := by decide +kernel
theorem dLw_614 : decode code 614 = .ok (.iaload, 1) := by decide +kernel
theorem dLw_615 : decode code 615 = .ok (.invokevirtual 68, 3) := by decide +kernel
theorem dLw_618 : decode code 618 = .ok (.aload_n 2, 1) := by decide +kernel
theorem dLw_619 : decode code 619 = .ok (.aload_n 0, 1) := by decide +kernel
theorem dLw_620 : decode code 620 = .ok (.iload_n 3, 1) := by decide +kernel
theorem dLw_621 : decode code 621 = .ok (.iconst 1, 1) := by decide +kernel
theorem dLw_622 : decode code 622 = .ok (.iadd, 1) := by decide +kernel
theorem dLw_623 : decode code 623 = .ok (.iaload, 1) := by decide +kernel
theorem dLw_624 : decode code 624 = .ok (.invokevirtual 71, 3) := by decide +kernel
theorem dLw_627 : decode code 627 = .ok (.if_icmp .eq 853, 3) := by decide +kernel
theorem dLw_630 : decode code 630 = .ok (.iconst 0, 1) := by decide +kernel
theorem dLw_631 : decode code 631 = .ok (.ireturn, 1) := by decide +kernel
theorem dLw_632 : decode code 632 = .ok (.aload_n 1, 1) := by decide +kernel
theorem dLw_633 : decode code 633 = .ok (.aload_n 0, 1) := by decide +kernel
theorem dLw_634 : decode code 634 = .ok (.iload_n 3, 1) := by decide +kernel
theorem dLw_635 : decode code 635 = .ok (.iconst 1, 1) := by decide +kernel
theorem dLw_636 : decode code 636 = .ok (.iadd, 1) := by decide +kernel
theorem dLw_637 : decode code 637 = .ok (.iaload, 1) := by decide +kernel
theorem dLw_638 : decode code 638 = .ok (.aload_n 0, 1) := by decide +kernel
theorem dLw_639 : decode code 639 = .ok (.iload_n 3, 1) := by decide +kernel
theorem dLw_640 : decode code 640 = .ok (.iconst 2, 1) := by decide +kernel
theorem dLw_641 : decode code 641 = .ok (.iadd, 1) := by decide +kernel
theorem dLw_642 : decode code 642 = .ok (.iaload, 1) := by decide +kernel
theorem dLw_643 : decode code 643 = .ok (.aload_n 0, 1) := by decide +kernel
theorem dLw_644 : decode code 644 = .ok (.iload_n 3, 1) := by decide +kernel
theorem dLw_645 : decode code 645 = .ok (.iconst 3, 1) := by decide +kernel
theorem dLw_646 : decode code 646 = .ok (.iadd, 1) := by decide +kernel
theorem dLw_647 : decode code 647 = .ok (.iaload, 1) := by decide +kernel
theorem dLw_648 : decode code 648 = .ok (.invokevirtual 72, 3) := by decide +kernel
theorem dLw_651 : decode code 651 = .ok (.aload_n 2, 1) := by decide +kernel
theorem dLw_652 : decode code 652 = .ok (.aload_n 0, 1) := by decide +kernel
theorem dLw_653 : decode code 653 = .ok (.iload_n 3, 1) := by decide +kernel
theorem dLw_654 : decode code 654 = .ok (.iconst 1, 1) := by decide +kernel
theorem dLw_655 : decode code 655 = .ok (.iadd, 1) := by decide +kernel
theorem dLw_656 : decode code 656 = .ok (.iaload, 1) := by decide +kernel
theorem dLw_657 : decode code 657 = .ok (.aload_n 0, 1) := by decide +kernel
theorem dLw_658 : decode code 658 = .ok (.iload_n 3, 1) := by decide +kernel
theorem dLw_659 : decode code 659 = .ok (.iconst 2, 1) := by decide +kernel
theorem dLw_660 : decode code 660 = .ok (.iadd, 1) := by decide +kernel
theorem dLw_661 : decode code 661 = .ok (.iaload, 1) := by decide +kernel
theorem dLw_662 : decode code 662 = .ok (.aload_n 0, 1) := by decide +kernel
theorem dLw_663 : decode code 663 = .ok (.iload_n 3, 1) := by decide +kernel
theorem dLw_664 : decode code 664 = .ok (.iconst 3, 1) := by decide +kernel
theorem dLw_665 : decode code 665 = .ok (.iadd, 1) := by decide +kernel
theorem dLw_666 : decode code 666 = .ok (.iaload, 1) := by decide +kernel
theorem dLw_667 : decode code 667 = .ok (.invokevirtual 75, 3) := by decide +kernel
theorem dLw_670 : decode code 670 = .ok (.if_icmp .eq 810, 3) := by decide +kernel
theorem dLw_673 : decode code 673 = .ok (.iconst 0, 1) := by decide +kernel
theorem dLw_674 : decode code 674 = .ok (.ireturn, 1) := by decide +kernel
theorem dLw_675 : decode code 675 = .ok (.aload_n 1, 1) := by decide +kernel
theorem dLw_676 : decode code 676 = .ok (.aload_n 0, 1) := by decide +kernel
theorem dLw_677 : decode code 677 = .ok (.iload_n 3, 1) := by decide +kernel
theorem dLw_678 : decode code 678 = .ok (.iconst 1, 1) := by decide +kernel
theorem dLw_679 : decode code 679 = .ok (.iadd, 1) := by decide +kernel
theorem dLw_680 : decode code 680 = .ok (.iaload, 1) := by decide +kernel
theorem dLw_681 : decode code 681 = .ok (.invokevirtual 76, 3) := by decide +kernel
theorem dLw_684 : decode code 684 = .ok (.aload_n 2, 1) := by decide +kernel
theorem dLw_685 : decode code 685 = .ok (.aload_n 0, 1) := by decide +kernel
theorem dLw_686 : decode code 686 = .ok (.iload_n 3, 1) := by decide +kernel
theorem dLw_687 : decode code 687 = .ok (.iconst 1, 1) := by decide +kernel
theorem dLw_688 : decode code 688 = .ok (.iadd, 1) := by decide +kernel
theorem dLw_689 : decode code 689 = .ok (.iaload, 1) := by decide +kernel
theorem dLw_690 : decode code 690 = .ok (.invokevirtual 79, 3) := by decide +kernel
theorem dLw_693 : decode code 693 = .ok (.if_icmp .eq 787, 3) := by decide +kernel
theorem dLw_696 : decode code 696 = .ok (.iconst 0, 1) := by decide +kernel
theorem dLw_697 : decode code 697 = .ok (.ireturn, 1) := by decide +kernel
theorem dLw_698 : decode code 698 = .ok (.aload_n 1, 1) := by decide +kernel
theorem dLw_699 : decode code 699 = .ok (.aload_n 0, 1) := by decide +kernel
theorem dLw_700 : decode code 700 = .ok (.iload_n 3, 1) := by decide +kernel
theorem dLw_701 : decode code 701 = .ok (.iconst 1, 1) := by decide +kernel
theorem dLw_702 : decode code 702 = .ok (.iadd, 1) := by decide +kernel
theorem dLw_703 : decode code 703 = .ok (.iaload, 1) := by decide +kernel
theorem dLw_704 : decode code 704 = .ok (.invokevirtual 80, 3) := by decide +kernel
theorem dLw_707 : decode code 707 = .ok (.aload_n 2, 1) := by decide +kernel
theorem dLw_708 : decode code 708 = .ok (.aload_n 0, 1) := by decide +kernel
theorem dLw_709 : decode code 709 = .ok (.iload_n 3, 1) := by decide +kernel
theorem dLw_710 : decode code 710 = .ok (.iconst 1, 1) := by decide +kernel
theorem dLw_711 : decode code 711 = .ok (.iadd, 1) := by decide +kernel
theorem dLw_712 : decode code 712 = .ok (.iaload, 1) := by decide +kernel
theorem dLw_713 : decode code 713 = .ok (.invokevirtual 83, 3) := by decide +kernel
theorem dLw_716 : decode code 716 = .ok (.if_icmp .eq 764, 3) := by decide +kernel
theorem dLw_719 : decode code 719 = .ok (.iconst 0, 1) := by decide +kernel
theorem dLw_720 : decode code 720 = .ok (.ireturn, 1) := by decide +kernel
theorem dLw_721 : decode code 721 = .ok (.aload_n 1, 1) := by decide +kernel
theorem dLw_722 : decode code 722 = .ok (.aload_n 0, 1) := by decide +kernel
theorem dLw_723 : decode code 723 = .ok (.iload_n 3, 1) := by decide +kernel
theorem dLw_724 : decode code 724 = .ok (.iconst 1, 1) := by decide +kernel
theorem dLw_725 : decode code 725 = .ok (.iadd, 1) := by decide +kernel
theorem dLw_726 : decode code 726 = .ok (.iaload, 1) := by decide +kernel
theorem dLw_727 : decode code 727 = .ok (.invokevirtual 84, 3) := by decide +kernel
theorem dLw_730 : decode code 730 = .ok (.aload_n 2, 1) := by decide +kernel
theorem dLw_731 : decode code 731 = .ok (.aload_n 0, 1) := by decide +kernel
theorem dLw_732 : decode code 732 = .ok (.iload_n 3, 1) := by decide +kernel
theorem dLw_733 : decode code 733 = .ok (.iconst 1, 1) := by decide +kernel
theorem dLw_734 : decode code 734 = .ok (.iadd, 1) := by decide +kernel
theorem dLw_735 : decode code 735 = .ok (.iaload, 1) := by decide +kernel
theorem dLw_736 : decode code 736 = .ok (.invokevirtual 87, 3) := by decide +kernel
theorem dLw_739 : decode code 739 = .ok (.if_icmp .eq 741, 3) := by decide +kernel
theorem dLw_742 : decode code 742 = .ok (.iconst 0, 1) := by decide +kernel
theorem dLw_743 : decode code 743 = .ok (.ireturn, 1) := by decide +kernel
theorem dLw_744 : decode code 744 = .ok (.aload_n 1, 1) := by decide +kernel
theorem dLw_745 : decode code 745 = .ok (.aload_n 0, 1) := by decide +kernel
theorem dLw_746 : decode code 746 = .ok (.iload_n 3, 1) := by decide +kernel
theorem dLw_747 : decode code 747 = .ok (.iconst 1, 1) := by decide +kernel
theorem dLw_748 : decode code 748 = .ok (.iadd, 1) := by decide +kernel
theorem dLw_749 : decode code 749 = .ok (.iaload, 1) := by decide +kernel
theorem dLw_750 : decode code 750 = .ok (.invokevirtual 88, 3) := by decide +kernel
theorem dLw_753 : decode code 753 = .ok (.aload_n 2, 1) := by decide +kernel
theorem dLw_754 : decode code 754 = .ok (.aload_n 0, 1) := by decide +kernel
theorem dLw_755 : decode code 755 = .ok (.iload_n 3, 1) := by decide +kernel
theorem dLw_756 : decode code 756 = .ok (.iconst 1, 1) := by decide +kernel
theorem dLw_757 : decode code 757 = .ok (.iadd, 1) := by decide +kernel
theorem dLw_758 : decode code 758 = .ok (.iaload, 1) := by decide +kernel
theorem dLw_759 : decode code 759 = .ok (.invokevirtual 91, 3) := by decide +kernel
theorem dLw_762 : decode code 762 = .ok (.if_icmp .eq 718, 3) := by decide +kernel
theorem dLw_765 : decode code 765 = .ok (.iconst 0, 1) := by decide +kernel
theorem dLw_766 : decode code 766 = .ok (.ireturn, 1) := by decide +kernel
theorem dLw_767 : decode code 767 = .ok (.aload_n 1, 1) := by decide +kernel
theorem dLw_768 : decode code 768 = .ok (.aload_n 0, 1) := by decide +kernel
theorem dLw_769 : decode code 769 = .ok (.iload_n 3, 1) := by decide +kernel
theorem dLw_770 : decode code 770 = .ok (.iconst 1, 1) := by decide +kernel
theorem dLw_771 : decode code 771 = .ok (.iadd, 1) := by decide +kernel
theorem dLw_772 : decode code 772 = .ok (.iaload, 1) := by decide +kernel
theorem dLw_773 : decode code 773 = .ok (.invokevirtual 92, 3) := by decide +kernel
theorem dLw_776 : decode code 776 = .ok (.aload_n 2, 1) := by decide +kernel
theorem dLw_777 : decode code 777 = .ok (.aload_n 0, 1) := by decide +kernel
theorem dLw_778 : decode code 778 = .ok (.iload_n 3, 1) := by decide +kernel
theorem dLw_779 : decode code 779 = .ok (.iconst 1, 1) := by decide +kernel
theorem dLw_780 : decode code 780 = .ok (.iadd, 1) := by decide +kernel
theorem dLw_781 : decode code 781 = .ok (.iaload, 1) := by decide +kernel
theorem dLw_782 : decode code 782 = .ok (.invokevirtual 95, 3) := by decide +kernel
theorem dLw_785 : decode code 785 = .ok (.if_icmp .eq 695, 3) := by decide +kernel
theorem dLw_788 : decode code 788 = .ok (.iconst 0, 1) := by decide +kernel
theorem dLw_789 : decode code 789 = .ok (.ireturn, 1) := by decide +kernel
theorem dLw_790 : decode code 790 = .ok (.aload_n 1, 1) := by decide +kernel
theorem dLw_791 : decode code 791 = .ok (.aload_n 0, 1) := by decide +kernel
theorem dLw_792 : decode code 792 = .ok (.iload_n 3, 1) := by decide +kernel
theorem dLw_793 : decode code 793 = .ok (.iconst 1, 1) := by decide +kernel
theorem dLw_794 : decode code 794 = .ok (.iadd, 1) := by decide +kernel
theorem dLw_795 : decode code 795 = .ok (.iaload, 1) := by decide +kernel
theorem dLw_796 : decode code 796 = .ok (.aload_n 0, 1) := by decide +kernel
theorem dLw_797 : decode code 797 = .ok (.iload_n 3, 1) := by decide +kernel
theorem dLw_798 : decode code 798 = .ok (.iconst 2, 1) := by decide +kernel
theorem dLw_799 : decode code 799 = .ok (.iadd, 1) := by decide +kernel
theorem dLw_800 : decode code 800 = .ok (.iaload, 1) := by decide +kernel
theorem dLw_801 : decode code 801 = .ok (.invokevirtual 96, 3) := by decide +kernel
theorem dLw_804 : decode code 804 = .ok (.aload_n 2, 1) := by decide +kernel
theorem dLw_805 : decode code 805 = .ok (.aload_n 0, 1) := by decide +kernel
theorem dLw_806 : decode code 806 = .ok (.iload_n 3, 1) := by decide +kernel
theorem dLw_807 : decode code 807 = .ok (.iconst 1, 1) := by decide +kernel
theorem dLw_808 : decode code 808 = .ok (.iadd, 1) := by decide +kernel
theorem dLw_809 : decode code 809 = .ok (.iaload, 1) := by decide +kernel
theorem dLw_810 : decode code 810 = .ok (.aload_n 0, 1) := by decide +kernel
theorem dLw_811 : decode code 811 = .ok (.iload_n 3, 1) := by decide +kernel
theorem dLw_812 : decode code 812 = .ok (.iconst 2, 1) := by decide +kernel
theorem dLw_813 : decode code 813 = .ok (.iadd, 1) := by decide +kernel
theorem dLw_814 : decode code 814 = .ok (.iaload, 1) := by decide +kernel
theorem dLw_815 : decode code 815 = .ok (.invokevirtual 99, 3) := by decide +kernel
theorem dLw_818 : decode code 818 = .ok (.if_icmp .eq 662, 3) := by decide +kernel
theorem dLw_821 : decode code 821 = .ok (.iconst 0, 1) := by decide +kernel
theorem dLw_822 : decode code 822 = .ok (.ireturn, 1) := by decide +kernel
theorem dLw_823 : decode code 823 = .ok (.aload_n 1, 1) := by decide +kernel
theorem dLw_824 : decode code 824 = .ok (.aload_n 0, 1) := by decide +kernel
theorem dLw_825 : decode code 825 = .ok (.iload_n 3, 1) := by decide +kernel
theorem dLw_826 : decode code 826 = .ok (.iconst 1, 1) := by decide +kernel
theorem dLw_827 : decode code 827 = .ok (.iadd, 1) := by decide +kernel
theorem dLw_828 : decode code 828 = .ok (.iaload, 1) := by decide +kernel
theorem dLw_829 : decode code 829 = .ok (.aload_n 0, 1) := by decide +kernel
theorem dLw_830 : decode code 830 = .ok (.iload_n 3, 1) := by decide +kernel
theorem dLw_831 : decode code 831 = .ok (.iconst 2, 1) := by decide +kernel
theorem dLw_832 : decode code 832 = .ok (.iadd, 1) := by decide +kernel
theorem dLw_833 : decode code 833 = .ok (.iaload, 1) := by decide +kernel
theorem dLw_834 : decode code 834 = .ok (.invokevirtual 100, 3) := by decide +kernel
theorem dLw_837 : decode code 837 = .ok (.aload_n 2, 1) := by decide +kernel
theorem dLw_838 : decode code 838 = .ok (.aload_n 0, 1) := by decide +kernel
theorem dLw_839 : decode code 839 = .ok (.iload_n 3, 1) := by decide +kernel
theorem dLw_840 : decode code 840 = .ok (.iconst 1, 1) := by decide +kernel
theorem dLw_841 : decode code 841 = .ok (.iadd, 1) := by decide +kernel
theorem dLw_842 : decode code 842 = .ok (.iaload, 1) := by decide +kernel
theorem dLw_843 : decode code 843 = .ok (.aload_n 0, 1) := by decide +kernel
theorem dLw_844 : decode code 844 = .ok (.iload_n 3, 1) := by decide +kernel
theorem dLw_845 : decode code 845 = .ok (.iconst 2, 1) := by decide +kernel
theorem dLw_846 : decode code 846 = .ok (.iadd, 1) := by decide +kernel
theorem dLw_847 : decode code 847 = .ok (.iaload, 1) := by decide +kernel
theorem dLw_848 : decode code 848 = .ok (.invokevirtual 103, 3) := by decide +kernel
theorem dLw_851 : decode code 851 = .ok (.if_icmp .eq 629, 3) := by decide +kernel
theorem dLw_854 : decode code 854 = .ok (.iconst 0, 1) := by decide +kernel
theorem dLw_855 : decode code 855 = .ok (.ireturn, 1) := by decide +kernel
theorem dLw_856 : decode code 856 = .ok (.aload_n 1, 1) := by decide +kernel
theorem dLw_857 : decode code 857 = .ok (.aload_n 0, 1) := by decide +kernel
theorem dLw_858 : decode code 858 = .ok (.iload_n 3, 1) := by decide +kernel
theorem dLw_859 : decode code 859 = .ok (.iconst 1, 1) := by decide +kernel
theorem dLw_860 : decode code 860 = .ok (.iadd, 1) := by decide +kernel
theorem dLw_861 : decode code 861 = .ok (.iaload, 1) := by decide +kernel
theorem dLw_862 : decode code 862 = .ok (.aload_n 0, 1) := by decide +kernel
theorem dLw_863 : decode code 863 = .ok (.iload_n 3, 1) := by decide +kernel
theorem dLw_864 : decode code 864 = .ok (.iconst 2, 1) := by decide +kernel
theorem dLw_865 : decode code 865 = .ok (.iadd, 1) := by decide +kernel
theorem dLw_866 : decode code 866 = .ok (.iaload, 1) := by decide +kernel
theorem dLw_867 : decode code 867 = .ok (.invokevirtual 104, 3) := by decide +kernel
theorem dLw_870 : decode code 870 = .ok (.aload_n 2, 1) := by decide +kernel
theorem dLw_871 : decode code 871 = .ok (.aload_n 0, 1) := by decide +kernel
theorem dLw_872 : decode code 872 = .ok (.iload_n 3, 1) := by decide +kernel
theorem dLw_873 : decode code 873 = .ok (.iconst 1, 1) := by decide +kernel
theorem dLw_874 : decode code 874 = .ok (.iadd, 1) := by decide +kernel
theorem dLw_875 : decode code 875 = .ok (.iaload, 1) := by decide +kernel
theorem dLw_876 : decode code 876 = .ok (.aload_n 0, 1) := by decide +kernel
theorem dLw_877 : decode code 877 = .ok (.iload_n 3, 1) := by decide +kernel
theorem dLw_878 : decode code 878 = .ok (.iconst 2, 1) := by decide +kernel
theorem dLw_879 : decode code 879 = .ok (.iadd, 1) := by decide +kernel
theorem dLw_880 : decode code 880 = .ok (.iaload, 1) := by decide +kernel
theorem dLw_881 : decode code 881 = .ok (.invokevirtual 107, 3) := by decide +kernel
theorem dLw_884 : decode code 884 = .ok (.if_icmp .eq 596, 3) := by decide +kernel
theorem dLw_887 : decode code 887 = .ok (.iconst 0, 1) := by decide +kernel
theorem dLw_888 : decode code 888 = .ok (.ireturn, 1) := by decide +kernel
theorem dLw_889 : decode code 889 = .ok (.aload_n 1, 1) := by decide +kernel
theorem dLw_890 : decode code 890 = .ok (.aload_n 0, 1) := by decide +kernel
theorem dLw_891 : decode code 891 = .ok (.iload_n 3, 1) := by decide +kernel
theorem dLw_892 : decode code 892 = .ok (.iconst 1, 1) := by decide +kernel
theorem dLw_893 : decode code 893 = .ok (.iadd, 1) := by decide +kernel
theorem dLw_894 : decode code 894 = .ok (.iaload, 1) := by decide +kernel
theorem dLw_895 : decode code 895 = .ok (.aload_n 0, 1) := by decide +kernel
theorem dLw_896 : decode code 896 = .ok (.iload_n 3, 1) := by decide +kernel
theorem dLw_897 : decode code 897 = .ok (.iconst 2, 1) := by decide +kernel
theorem dLw_898 : decode code 898 = .ok (.iadd, 1) := by decide +kernel
theorem dLw_899 : decode code 899 = .ok (.iaload, 1) := by decide +kernel
theorem dLw_900 : decode code 900 = .ok (.invokevirtual 108, 3) := by decide +kernel
theorem dLw_903 : decode code 903 = .ok (.aload_n 2, 1) := by decide +kernel
theorem dLw_904 : decode code 904 = .ok (.aload_n 0, 1) := by decide +kernel
theorem dLw_905 : decode code 905 = .ok (.iload_n 3, 1) := by decide +kernel
theorem dLw_906 : decode code 906 = .ok (.iconst 1, 1) := by decide +kernel
theorem dLw_907 : decode code 907 = .ok (.iadd, 1) := by decide +kernel
theorem dLw_908 : decode code 908 = .ok (.iaload, 1) := by decide +kernel
theorem dLw_909 : decode code 909 = .ok (.aload_n 0, 1) := by decide +kernel
theorem dLw_910 : decode code 910 = .ok (.iload_n 3, 1) := by decide +kernel
theorem dLw_911 : decode code 911 = .ok (.iconst 2, 1) := by decide +kernel
theorem dLw_912 : decode code 912 = .ok (.iadd, 1) := by decide +kernel
theorem dLw_913 : decode code 913 = .ok (.iaload, 1) := by decide +kernel
theorem dLw_914 : decode code 914 = .ok (.invokevirtual 111, 3) := by decide +kernel
theorem dLw_917 : decode code 917 = .ok (.if_icmp .eq 563, 3) := by decide +kernel
theorem dLw_920 : decode code 920 = .ok (.iconst 0, 1) := by decide +kernel
theorem dLw_921 : decode code 921 = .ok (.ireturn, 1) := by decide +kernel
theorem dLw_922 : decode code 922 = .ok (.aload_n 1, 1) := by decide +kernel
theorem dLw_923 : decode code 923 = .ok (.aload_n 0, 1) := by decide +kernel
theorem dLw_924 : decode code 924 = .ok (.iload_n 3, 1) := by decide +kernel
theorem dLw_925 : decode code 925 = .ok (.iconst 1, 1) := by decide +kernel
theorem dLw_926 : decode code 926 = .ok (.iadd, 1) := by decide +kernel
theorem dLw_927 : decode code 927 = .ok (.iaload, 1) := by decide +kernel
theorem dLw_928 : decode code 928 = .ok (.aload_n 0, 1) := by decide +kernel
theorem dLw_929 : decode code 929 = .ok (.iload_n 3, 1) := by decide +kernel
theorem dLw_930 : decode code 930 = .ok (.iconst 2, 1) := by decide +kernel
theorem dLw_931 : decode code 931 = .ok (.iadd, 1) := by decide +kernel
theorem dLw_932 : decode code 932 = .ok (.iaload, 1) := by decide +kernel
theorem dLw_933 : decode code 933 = .ok (.invokevirtual 112, 3) := by decide +kernel
theorem dLw_936 : decode code 936 = .ok (.aload_n 2, 1) := by decide +kernel
theorem dLw_937 : decode code 937 = .ok (.aload_n 0, 1) := by decide +kernel
theorem dLw_938 : decode code 938 = .ok (.iload_n 3, 1) := by decide +kernel
theorem dLw_939 : decode code 939 = .ok (.iconst 1, 1) := by decide +kernel
theorem dLw_940 : decode code 940 = .ok (.iadd, 1) := by decide +kernel
theorem dLw_941 : decode code 941 = .ok (.iaload, 1) := by decide +kernel
theorem dLw_942 : decode code 942 = .ok (.aload_n 0, 1) := by decide +kernel
theorem dLw_943 : decode code 943 = .ok (.iload_n 3, 1) := by decide +kernel
theorem dLw_944 : decode code 944 = .ok (.iconst 2, 1) := by decide +kernel
theorem dLw_945 : decode code 945 = .ok (.iadd, 1) := by decide +kernel
theorem dLw_946 : decode code 946 = .ok (.iaload, 1) := by decide +kernel
theorem dLw_947 : decode code 947 = .ok (.invokevirtual 115, 3) := by decide +kernel
theorem dLw_950 : decode code 950 = .ok (.if_icmp .eq 530, 3) := by decide +kernel
theorem dLw_953 : decode code 953 = .ok (.iconst 0, 1) := by decide +kernel
theorem dLw_954 : decode code 954 = .ok (.ireturn, 1) := by decide +kernel
theorem dLw_955 : decode code 955 = .ok (.aload_n 1, 1) := by decide +kernel
theorem dLw_956 : decode code 956 = .ok (.aload_n 0, 1) := by decide +kernel
theorem dLw_957 : decode code 957 = .ok (.iload_n 3, 1) := by decide +kernel
theorem dLw_958 : decode code 958 = .ok (.iconst 1, 1) := by decide +kernel
theorem dLw_959 : decode code 959 = .ok (.iadd, 1) := by decide +kernel
theorem dLw_960 : decode code 960 = .ok (.iaload, 1) := by decide +kernel
theorem dLw_961 : decode code 961 = .ok (.aload_n 0, 1) := by decide +kernel
theorem dLw_962 : decode code 962 = .ok (.iload_n 3, 1) := by decide +kernel
theorem dLw_963 : decode code 963 = .ok (.iconst 2, 1) := by decide +kernel
theorem dLw_964 : decode code 964 = .ok (.iadd, 1) := by decide +kernel
theorem dLw_965 : decode code 965 = .ok (.iaload, 1) := by decide +kernel
theorem dLw_966 : decode code 966 = .ok (.invokevirtual 116, 3) := by decide +kernel
theorem dLw_969 : decode code 969 = .ok (.aload_n 2, 1) := by decide +kernel
theorem dLw_970 : decode code 970 = .ok (.aload_n 0, 1) := by decide +kernel
theorem dLw_971 : decode code 971 = .ok (.iload_n 3, 1) := by decide +kernel
theorem dLw_972 : decode code 972 = .ok (.iconst 1, 1) := by decide +kernel
theorem dLw_973 : decode code 973 = .ok (.iadd, 1) := by decide +kernel
theorem dLw_974 : decode code 974 = .ok (.iaload, 1) := by decide +kernel
theorem dLw_975 : decode code 975 = .ok (.aload_n 0, 1) := by decide +kernel
theorem dLw_976 : decode code 976 = .ok (.iload_n 3, 1) := by decide +kernel
theorem dLw_977 : decode code 977 = .ok (.iconst 2, 1) := by decide +kernel
theorem dLw_978 : decode code 978 = .ok (.iadd, 1) := by decide +kernel
theorem dLw_979 : decode code 979 = .ok (.iaload, 1) := by decide +kernel
theorem dLw_980 : decode code 980 = .ok (.invokevirtual 119, 3) := by decide +kernel
theorem dLw_983 : decode code 983 = .ok (.if_icmp .eq 497, 3) := by decide +kernel
theorem dLw_986 : decode code 986 = .ok (.iconst 0, 1) := by decide +kernel
theorem dLw_987 : decode code 987 = .ok (.ireturn, 1) := by decide +kernel
theorem dLw_988 : decode code 988 = .ok (.aload_n 1, 1) := by decide +kernel
theorem dLw_989 : decode code 989 = .ok (.aload_n 0, 1) := by decide +kernel
theorem dLw_990 : decode code 990 = .ok (.iload_n 3, 1) := by decide +kernel
theorem dLw_991 : decode code 991 = .ok (.iconst 1, 1) := by decide +kernel
theorem dLw_992 : decode code 992 = .ok (.iadd, 1) := by decide +kernel
theorem dLw_993 : decode code 993 = .ok (.iaload, 1) := by decide +kernel
theorem dLw_994 : decode code 994 = .ok (.invokevirtual 120, 3) := by decide +kernel
theorem dLw_997 : decode code 997 = .ok (.aload_n 2, 1) := by decide +kernel
theorem dLw_998 : decode code 998 = .ok (.aload_n 0, 1) := by decide +kernel
theorem dLw_999 : decode code 999 = .ok (.iload_n 3, 1) := by decide +kernel
theorem dLw_1000 : decode code 1000 = .ok (.iconst 1, 1) := by decide +kernel
theorem dLw_1001 : decode code 1001 = .ok (.iadd, 1) := by decide +kernel
theorem dLw_1002 : decode code 1002 = .ok (.iaload, 1) := by decide +kernel
theorem dLw_1003 : decode code 1003 = .ok (.invokevirtual 123, 3) := by decide +kernel
theorem dLw_1006 : decode code 1006 = .ok (.if_icmp .eq 474, 3) := by decide +kernel
theorem dLw_1009 : decode code 1009 = .ok (.iconst 0, 1) := by decide +kernel
theorem dLw_1010 : decode code 1010 = .ok (.ireturn, 1) := by decide +kernel
theorem dLw_1011 : decode code 1011 = .ok (.aload_n 1, 1) := by decide +kernel
theorem dLw_1012 : decode code 1012 = .ok (.aload_n 0, 1) := by decide +kernel
theorem dLw_1013 : decode code 1013 = .ok (.iload_n 3, 1) := by decide +kernel
theorem dLw_1014 : decode code 1014 = .ok (.iconst 1, 1) := by decide +kernel
theorem dLw_1015 : decode code 1015 = .ok (.iadd, 1) := by decide +kernel
theorem dLw_1016 : decode code 1016 = .ok (.iaload, 1) := by decide +kernel
theorem dLw_1017 : decode code 1017 = .ok (.aload_n 0, 1) := by decide +kernel
theorem dLw_1018 : decode code 1018 = .ok (.iload_n 3, 1) := by decide +kernel
theorem dLw_1019 : decode code 1019 = .ok (.iconst 2, 1) := by decide +kernel
theorem dLw_1020 : decode code 1020 = .ok (.iadd, 1) := by decide +kernel
theorem dLw_1021 : decode code 1021 = .ok (.iaload, 1) := by decide +kernel
theorem dLw_1022 : decode code 1022 = .ok (.invokevirtual 124, 3) := by decide +kernel
theorem dLw_1025 : decode code 1025 = .ok (.aload_n 2, 1) := by decide +kernel
theorem dLw_1026 : decode code 1026 = .ok (.aload_n 0, 1) := by decide +kernel
theorem dLw_1027 : decode code 1027 = .ok (.iload_n 3, 1) := by decide +kernel
theorem dLw_1028 : decode code 1028 = .ok (.iconst 1, 1) := by decide +kernel
theorem dLw_1029 : decode code 1029 = .ok (.iadd, 1) := by decide +kernel
theorem dLw_1030 : decode code 1030 = .ok (.iaload, 1) := by decide +kernel
theorem dLw_1031 : decode code 1031 = .ok (.aload_n 0, 1) := by decide +kernel
theorem dLw_1032 : decode code 1032 = .ok (.iload_n 3, 1) := by decide +kernel
theorem dLw_1033 : decode code 1033 = .ok (.iconst 2, 1) := by decide +kernel
theorem dLw_1034 : decode code 1034 = .ok (.iadd, 1) := by decide +kernel
theorem dLw_1035 : decode code 1035 = .ok (.iaload, 1) := by decide +kernel
theorem dLw_1036 : decode code 1036 = .ok (.invokevirtual 127, 3) := by decide +kernel
theorem dLw_1039 : decode code 1039 = .ok (.if_icmp .eq 441, 3) := by decide +kernel
theorem dLw_1042 : decode code 1042 = .ok (.iconst 0, 1) := by decide +kernel
theorem dLw_1043 : decode code 1043 = .ok (.ireturn, 1) := by decide +kernel
theorem dLw_1044 : decode code 1044 = .ok (.aload_n 1, 1) := by decide +kernel
theorem dLw_1045 : decode code 1045 = .ok (.aload_n 0, 1) := by decide +kernel
theorem dLw_1046 : decode code 1046 = .ok (.iload_n 3, 1) := by decide +kernel
theorem dLw_1047 : decode code 1047 = .ok (.iconst 1, 1) := by decide +kernel
theorem dLw_1048 : decode code 1048 = .ok (.iadd, 1) := by decide +kernel
theorem dLw_1049 : decode code 1049 = .ok (.iaload, 1) := by decide +kernel
theorem dLw_1050 : decode code 1050 = .ok (.invokevirtual 128, 3) := by decide +kernel
theorem dLw_1053 : decode code 1053 = .ok (.aload_n 2, 1) := by decide +kernel
theorem dLw_1054 : decode code 1054 = .ok (.aload_n 0, 1) := by decide +kernel
theorem dLw_1055 : decode code 1055 = .ok (.iload_n 3, 1) := by decide +kernel
theorem dLw_1056 : decode code 1056 = .ok (.iconst 1, 1) := by decide +kernel
theorem dLw_1057 : decode code 1057 = .ok (.iadd, 1) := by decide +kernel
theorem dLw_1058 : decode code 1058 = .ok (.iaload, 1) := by decide +kernel
theorem dLw_1059 : decode code 1059 = .ok (.invokevirtual 131, 3) := by decide +kernel
theorem dLw_1062 : decode code 1062 = .ok (.if_icmp .eq 418, 3) := by decide +kernel
theorem dLw_1065 : decode code 1065 = .ok (.iconst 0, 1) := by decide +kernel
theorem dLw_1066 : decode code 1066 = .ok (.ireturn, 1) := by decide +kernel
theorem dLw_1067 : decode code 1067 = .ok (.aload_n 1, 1) := by decide +kernel
theorem dLw_1068 : decode code 1068 = .ok (.aload_n 0, 1) := by decide +kernel
theorem dLw_1069 : decode code 1069 = .ok (.iload_n 3, 1) := by decide +kernel
theorem dLw_1070 : decode code 1070 = .ok (.iconst 1, 1) := by decide +kernel
theorem dLw_1071 : decode code 1071 = .ok (.iadd, 1) := by decide +kernel
theorem dLw_1072 : decode code 1072 = .ok (.iaload, 1) := by decide +kernel
theorem dLw_1073 : decode code 1073 = .ok (.aload_n 0, 1) := by decide +kernel
theorem dLw_1074 : decode code 1074 = .ok (.iload_n 3, 1) := by decide +kernel
theorem dLw_1075 : decode code 1075 = .ok (.iconst 2, 1) := by decide +kernel
theorem dLw_1076 : decode code 1076 = .ok (.iadd, 1) := by decide +kernel
theorem dLw_1077 : decode code 1077 = .ok (.iaload, 1) := by decide +kernel
theorem dLw_1078 : decode code 1078 = .ok (.invokevirtual 132, 3) := by decide +kernel
theorem dLw_1081 : decode code 1081 = .ok (.aload_n 2, 1) := by decide +kernel
theorem dLw_1082 : decode code 1082 = .ok (.aload_n 0, 1) := by decide +kernel
theorem dLw_1083 : decode code 1083 = .ok (.iload_n 3, 1) := by decide +kernel
theorem dLw_1084 : decode code 1084 = .ok (.iconst 1, 1) := by decide +kernel
theorem dLw_1085 : decode code 1085 = .ok (.iadd, 1) := by decide +kernel
theorem dLw_1086 : decode code 1086 = .ok (.iaload, 1) := by decide +kernel
theorem dLw_1087 : decode code 1087 = .ok (.aload_n 0, 1) := by decide +kernel
theorem dLw_1088 : decode code 1088 = .ok (.iload_n 3, 1) := by decide +kernel
theorem dLw_1089 : decode code 1089 = .ok (.iconst 2, 1) := by decide +kernel
theorem dLw_1090 : decode code 1090 = .ok (.iadd, 1) := by decide +kernel
theorem dLw_1091 : decode code 1091 = .ok (.iaload, 1) := by decide +kernel
theorem dLw_1092 : decode code 1092 = .ok (.invokevirtual 135, 3) := by decide +kernel
theorem dLw_1095 : decode code 1095 = .ok (.if_icmp .eq 385, 3) := by decide +kernel
theorem dLw_1098 : decode code 1098 = .ok (.iconst 0, 1) := by decide +kernel
theorem dLw_1099 : decode code 1099 = .ok (.ireturn, 1) := by decide +kernel
theorem dLw_1100 : decode code 1100 = .ok (.aload_n 1, 1) := by decide +kernel
theorem dLw_1101 : decode code 1101 = .ok (.invokevirtual 136, 3) := by decide +kernel
theorem dLw_1104 : decode code 1104 = .ok (.aload_n 2, 1) := by decide +kernel
theorem dLw_1105 : decode code 1105 = .ok (.invokevirtual 140, 3) := by decide +kernel
theorem dLw_1108 : decode code 1108 = .ok (.if_icmp .eq 372, 3) := by decide +kernel
theorem dLw_1111 : decode code 1111 = .ok (.iconst 0, 1) := by decide +kernel
theorem dLw_1112 : decode code 1112 = .ok (.ireturn, 1) := by decide +kernel
theorem dLw_1113 : decode code 1113 = .ok (.aload_n 1, 1) := by decide +kernel
theorem dLw_1114 : decode code 1114 = .ok (.invokevirtual 141, 3) := by decide +kernel
theorem dLw_1117 : decode code 1117 = .ok (.aload_n 2, 1) := by decide +kernel
theorem dLw_1118 : decode code 1118 = .ok (.invokevirtual 144, 3) := by decide +kernel
theorem dLw_1121 : decode code 1121 = .ok (.if_icmp .eq 359, 3) := by decide +kernel
theorem dLw_1124 : decode code 1124 = .ok (.iconst 0, 1) := by decide +kernel
theorem dLw_1125 : decode code 1125 = .ok (.ireturn, 1) := by decide +kernel
theorem dLw_1126 : decode code 1126 = .ok (.aload_n 1, 1) := by decide +kernel
theorem dLw_1127 : decode code 1127 = .ok (.aload_n 0, 1) := by decide +kernel
theorem dLw_1128 : decode code 1128 = .ok (.iload_n 3, 1) := by decide +kernel
theorem dLw_1129 : decode code 1129 = .ok (.iconst 1, 1) := by decide +kernel
theorem dLw_1130 : decode code 1130 = .ok (.iadd, 1) := by decide +kernel
theorem dLw_1131 : decode code 1131 = .ok (.iaload, 1) := by decide +kernel
theorem dLw_1132 : decode code 1132 = .ok (.aload_n 0, 1) := by decide +kernel
theorem dLw_1133 : decode code 1133 = .ok (.iload_n 3, 1) := by decide +kernel
theorem dLw_1134 : decode code 1134 = .ok (.iconst 2, 1) := by decide +kernel
theorem dLw_1135 : decode code 1135 = .ok (.iadd, 1) := by decide +kernel
theorem dLw_1136 : decode code 1136 = .ok (.iaload, 1) := by decide +kernel
theorem dLw_1137 : decode code 1137 = .ok (.aload_n 0, 1) := by decide +kernel
theorem dLw_1138 : decode code 1138 = .ok (.iload_n 3, 1) := by decide +kernel
theorem dLw_1139 : decode code 1139 = .ok (.iconst 3, 1) := by decide +kernel
theorem dLw_1140 : decode code 1140 = .ok (.iadd, 1) := by decide +kernel
theorem dLw_1141 : decode code 1141 = .ok (.iaload, 1) := by decide +kernel
theorem dLw_1142 : decode code 1142 = .ok (.invokevirtual 145, 3) := by decide +kernel
theorem dLw_1145 : decode code 1145 = .ok (.aload_n 2, 1) := by decide +kernel
theorem dLw_1146 : decode code 1146 = .ok (.aload_n 0, 1) := by decide +kernel
theorem dLw_1147 : decode code 1147 = .ok (.iload_n 3, 1) := by decide +kernel
theorem dLw_1148 : decode code 1148 = .ok (.iconst 1, 1) := by decide +kernel
theorem dLw_1149 : decode code 1149 = .ok (.iadd, 1) := by decide +kernel
theorem dLw_1150 : decode code 1150 = .ok (.iaload, 1) := by decide +kernel
theorem dLw_1151 : decode code 1151 = .ok (.aload_n 0, 1) := by decide +kernel
theorem dLw_1152 : decode code 1152 = .ok (.iload_n 3, 1) := by decide +kernel
theorem dLw_1153 : decode code 1153 = .ok (.iconst 2, 1) := by decide +kernel
theorem dLw_1154 : decode code 1154 = .ok (.iadd, 1) := by decide +kernel
theorem dLw_1155 : decode code 1155 = .ok (.iaload, 1) := by decide +kernel
theorem dLw_1156 : decode code 1156 = .ok (.aload_n 0, 1) := by decide +kernel
theorem dLw_1157 : decode code 1157 = .ok (.iload_n 3, 1) := by decide +kernel
theorem dLw_1158 : decode code 1158 = .ok (.iconst 3, 1) := by decide +kernel
theorem dLw_1159 : decode code 1159 = .ok (.iadd, 1) := by decide +kernel
theorem dLw_1160 : decode code 1160 = .ok (.iaload, 1) := by decide +kernel
theorem dLw_1161 : decode code 1161 = .ok (.invokevirtual 148, 3) := by decide +kernel
theorem dLw_1164 : decode code 1164 = .ok (.if_icmp .eq 316, 3) := by decide +kernel
theorem dLw_1167 : decode code 1167 = .ok (.iconst 0, 1) := by decide +kernel
theorem dLw_1168 : decode code 1168 = .ok (.ireturn, 1) := by decide +kernel
theorem dLw_1169 : decode code 1169 = .ok (.aload_n 1, 1) := by decide +kernel
theorem dLw_1170 : decode code 1170 = .ok (.aload_n 0, 1) := by decide +kernel
theorem dLw_1171 : decode code 1171 = .ok (.iload_n 3, 1) := by decide +kernel
theorem dLw_1172 : decode code 1172 = .ok (.iconst 1, 1) := by decide +kernel
theorem dLw_1173 : decode code 1173 = .ok (.iadd, 1) := by decide +kernel
theorem dLw_1174 : decode code 1174 = .ok (.iaload, 1) := by decide +kernel
theorem dLw_1175 : decode code 1175 = .ok (.aload_n 0, 1) := by decide +kernel
theorem dLw_1176 : decode code 1176 = .ok (.iload_n 3, 1) := by decide +kernel
theorem dLw_1177 : decode code 1177 = .ok (.iconst 2, 1) := by decide +kernel
theorem dLw_1178 : decode code 1178 = .ok (.iadd, 1) := by decide +kernel
theorem dLw_1179 : decode code 1179 = .ok (.iaload, 1) := by decide +kernel
theorem dLw_1180 : decode code 1180 = .ok (.aload_n 0, 1) := by decide +kernel
theorem dLw_1181 : decode code 1181 = .ok (.iload_n 3, 1) := by decide +kernel
theorem dLw_1182 : decode code 1182 = .ok (.iconst 3, 1) := by decide +kernel
theorem dLw_1183 : decode code 1183 = .ok (.iadd, 1) := by decide +kernel
theorem dLw_1184 : decode code 1184 = .ok (.iaload, 1) := by decide +kernel
theorem dLw_1185 : decode code 1185 = .ok (.i2l, 1) := by decide +kernel
theorem dLw_1186 : decode code 1186 = .ok (.bipush 32, 2) := by decide +kernel
theorem dLw_1188 : decode code 1188 = .ok (.lshl, 1) := by decide +kernel
theorem dLw_1189 : decode code 1189 = .ok (.aload_n 0, 1) := by decide +kernel
theorem dLw_1190 : decode code 1190 = .ok (.iload_n 3, 1) := by decide +kernel
theorem dLw_1191 : decode code 1191 = .ok (.iconst 4, 1) := by decide +kernel
theorem dLw_1192 : decode code 1192 = .ok (.iadd, 1) := by decide +kernel
theorem dLw_1193 : decode code 1193 = .ok (.iaload, 1) := by decide +kernel
theorem dLw_1194 : decode code 1194 = .ok (.i2l, 1) := by decide +kernel
theorem dLw_1195 : decode code 1195 = .ok (.ldc2_w 149, 3) := by decide +kernel
theorem dLw_1198 : decode code 1198 = .ok (.land, 1) := by decide +kernel
theorem dLw_1199 : decode code 1199 = .ok (.lor, 1) := by decide +kernel
theorem dLw_1200 : decode code 1200 = .ok (.invokevirtual 151, 3) := by decide +kernel
theorem dLw_1203 : decode code 1203 = .ok (.aload_n 2, 1) := by decide +kernel
theorem dLw_1204 : decode code 1204 = .ok (.aload_n 0, 1) := by decide +kernel
theorem dLw_1205 : decode code 1205 = .ok (.iload_n 3, 1) := by decide +kernel
theorem dLw_1206 : decode code 1206 = .ok (.iconst 1, 1) := by decide +kernel
theorem dLw_1207 : decode code 1207 = .ok (.iadd, 1) := by decide +kernel
theorem dLw_1208 : decode code 1208 = .ok (.iaload, 1) := by decide +kernel
theorem dLw_1209 : decode code 1209 = .ok (.aload_n 0, 1) := by decide +kernel
theorem dLw_1210 : decode code 1210 = .ok (.iload_n 3, 1) := by decide +kernel
theorem dLw_1211 : decode code 1211 = .ok (.iconst 2, 1) := by decide +kernel
theorem dLw_1212 : decode code 1212 = .ok (.iadd, 1) := by decide +kernel
theorem dLw_1213 : decode code 1213 = .ok (.iaload, 1) := by decide +kernel
theorem dLw_1214 : decode code 1214 = .ok (.aload_n 0, 1) := by decide +kernel
theorem dLw_1215 : decode code 1215 = .ok (.iload_n 3, 1) := by decide +kernel
theorem dLw_1216 : decode code 1216 = .ok (.iconst 3, 1) := by decide +kernel
theorem dLw_1217 : decode code 1217 = .ok (.iadd, 1) := by decide +kernel
theorem dLw_1218 : decode code 1218 = .ok (.iaload, 1) := by decide +kernel
theorem dLw_1219 : decode code 1219 = .ok (.i2l, 1) := by decide +kernel
theorem dLw_1220 : decode code 1220 = .ok (.bipush 32, 2) := by decide +kernel
theorem dLw_1222 : decode code 1222 = .ok (.lshl, 1) := by decide +kernel
theorem dLw_1223 : decode code 1223 = .ok (.aload_n 0, 1) := by decide +kernel
theorem dLw_1224 : decode code 1224 = .ok (.iload_n 3, 1) := by decide +kernel
theorem dLw_1225 : decode code 1225 = .ok (.iconst 4, 1) := by decide +kernel
theorem dLw_1226 : decode code 1226 = .ok (.iadd, 1) := by decide +kernel
theorem dLw_1227 : decode code 1227 = .ok (.iaload, 1) := by decide +kernel
theorem dLw_1228 : decode code 1228 = .ok (.i2l, 1) := by decide +kernel
theorem dLw_1229 : decode code 1229 = .ok (.ldc2_w 149, 3) := by decide +kernel
theorem dLw_1232 : decode code 1232 = .ok (.land, 1) := by decide +kernel
theorem dLw_1233 : decode code 1233 = .ok (.lor, 1) := by decide +kernel
theorem dLw_1234 : decode code 1234 = .ok (.invokevirtual 155, 3) := by decide +kernel
theorem dLw_1237 : decode code 1237 = .ok (.lcmp, 1) := by decide +kernel
theorem dLw_1238 : decode code 1238 = .ok (.ifCond .eq 242, 3) := by decide +kernel
theorem dLw_1241 : decode code 1241 = .ok (.iconst 0, 1) := by decide +kernel
theorem dLw_1242 : decode code 1242 = .ok (.ireturn, 1) := by decide +kernel
theorem dLw_1243 : decode code 1243 = .ok (.aload_n 1, 1) := by decide +kernel
theorem dLw_1244 : decode code 1244 = .ok (.aload_n 0, 1) := by decide +kernel
theorem dLw_1245 : decode code 1245 = .ok (.iload_n 3, 1) := by decide +kernel
theorem dLw_1246 : decode code 1246 = .ok (.iconst 1, 1) := by decide +kernel
theorem dLw_1247 : decode code 1247 = .ok (.iadd, 1) := by decide +kernel
theorem dLw_1248 : decode code 1248 = .ok (.iaload, 1) := by decide +kernel
theorem dLw_1249 : decode code 1249 = .ok (.aload_n 0, 1) := by decide +kernel
theorem dLw_1250 : decode code 1250 = .ok (.iload_n 3, 1) := by decide +kernel
theorem dLw_1251 : decode code 1251 = .ok (.iconst 2, 1) := by decide +kernel
theorem dLw_1252 : decode code 1252 = .ok (.iadd, 1) := by decide +kernel
theorem dLw_1253 : decode code 1253 = .ok (.iaload, 1) := by decide +kernel
theorem dLw_1254 : decode code 1254 = .ok (.aload_n 0, 1) := by decide +kernel
theorem dLw_1255 : decode code 1255 = .ok (.iload_n 3, 1) := by decide +kernel
theorem dLw_1256 : decode code 1256 = .ok (.iconst 3, 1) := by decide +kernel
theorem dLw_1257 : decode code 1257 = .ok (.iadd, 1) := by decide +kernel
theorem dLw_1258 : decode code 1258 = .ok (.iaload, 1) := by decide +kernel
theorem dLw_1259 : decode code 1259 = .ok (.aload_n 0, 1) := by decide +kernel
theorem dLw_1260 : decode code 1260 = .ok (.iload_n 3, 1) := by decide +kernel
theorem dLw_1261 : decode code 1261 = .ok (.iconst 4, 1) := by decide +kernel
theorem dLw_1262 : decode code 1262 = .ok (.iadd, 1) := by decide +kernel
theorem dLw_1263 : decode code 1263 = .ok (.iaload, 1) := by decide +kernel
theorem dLw_1264 : decode code 1264 = .ok (.aload_n 0, 1) := by decide +kernel
theorem dLw_1265 : decode code 1265 = .ok (.iload_n 3, 1) := by decide +kernel
theorem dLw_1266 : decode code 1266 = .ok (.iconst 5, 1) := by decide +kernel
theorem dLw_1267 : decode code 1267 = .ok (.iadd, 1) := by decide +kernel
theorem dLw_1268 : decode code 1268 = .ok (.iaload, 1) := by decide +kernel
theorem dLw_1269 : decode code 1269 = .ok (.invokevirtual 156, 3) := by decide +kernel
theorem dLw_1272 : decode code 1272 = .ok (.aload_n 2, 1) := by decide +kernel
theorem dLw_1273 : decode code 1273 = .ok (.aload_n 0, 1) := by decide +kernel
theorem dLw_1274 : decode code 1274 = .ok (.iload_n 3, 1) := by decide +kernel
theorem dLw_1275 : decode code 1275 = .ok (.iconst 1, 1) := by decide +kernel
theorem dLw_1276 : decode code 1276 = .ok (.iadd, 1) := by decide +kernel
theorem dLw_1277 : decode code 1277 = .ok (.iaload, 1) := by decide +kernel
theorem dLw_1278 : decode code 1278 = .ok (.aload_n 0, 1) := by decide +kernel
theorem dLw_1279 : decode code 1279 = .ok (.iload_n 3, 1) := by decide +kernel
theorem dLw_1280 : decode code 1280 = .ok (.iconst 2, 1) := by decide +kernel
theorem dLw_1281 : decode code 1281 = .ok (.iadd, 1) := by decide +kernel
theorem dLw_1282 : decode code 1282 = .ok (.iaload, 1) := by decide +kernel
theorem dLw_1283 : decode code 1283 = .ok (.aload_n 0, 1) := by decide +kernel
theorem dLw_1284 : decode code 1284 = .ok (.iload_n 3, 1) := by decide +kernel
theorem dLw_1285 : decode code 1285 = .ok (.iconst 3, 1) := by decide +kernel
theorem dLw_1286 : decode code 1286 = .ok (.iadd, 1) := by decide +kernel
theorem dLw_1287 : decode code 1287 = .ok (.iaload, 1) := by decide +kernel
theorem dLw_1288 : decode code 1288 = .ok (.aload_n 0, 1) := by decide +kernel
theorem dLw_1289 : decode code 1289 = .ok (.iload_n 3, 1) := by decide +kernel
theorem dLw_1290 : decode code 1290 = .ok (.iconst 4, 1) := by decide +kernel
theorem dLw_1291 : decode code 1291 = .ok (.iadd, 1) := by decide +kernel
theorem dLw_1292 : decode code 1292 = .ok (.iaload, 1) := by decide +kernel
theorem dLw_1293 : decode code 1293 = .ok (.aload_n 0, 1) := by decide +kernel
theorem dLw_1294 : decode code 1294 = .ok (.iload_n 3, 1) := by decide +kernel
theorem dLw_1295 : decode code 1295 = .ok (.iconst 5, 1) := by decide +kernel
theorem dLw_1296 : decode code 1296 = .ok (.iadd, 1) := by decide +kernel
theorem dLw_1297 : decode code 1297 = .ok (.iaload, 1) := by decide +kernel
theorem dLw_1298 : decode code 1298 = .ok (.invokevirtual 160, 3) := by decide +kernel
theorem dLw_1301 : decode code 1301 = .ok (.if_icmp .eq 179, 3) := by decide +kernel
theorem dLw_1304 : decode code 1304 = .ok (.iconst 0, 1) := by decide +kernel
theorem dLw_1305 : decode code 1305 = .ok (.ireturn, 1) := by decide +kernel
theorem dLw_1306 : decode code 1306 = .ok (.aload_n 1, 1) := by decide +kernel
theorem dLw_1307 : decode code 1307 = .ok (.aload_n 0, 1) := by decide +kernel
theorem dLw_1308 : decode code 1308 = .ok (.iload_n 3, 1) := by decide +kernel
theorem dLw_1309 : decode code 1309 = .ok (.iconst 1, 1) := by decide +kernel
theorem dLw_1310 : decode code 1310 = .ok (.iadd, 1) := by decide +kernel
theorem dLw_1311 : decode code 1311 = .ok (.iaload, 1) := by decide +kernel
theorem dLw_1312 : decode code 1312 = .ok (.invokevirtual 161, 3) := by decide +kernel
theorem dLw_1315 : decode code 1315 = .ok (.aload_n 2, 1) := by decide +kernel
theorem dLw_1316 : decode code 1316 = .ok (.aload_n 0, 1) := by decide +kernel
theorem dLw_1317 : decode code 1317 = .ok (.iload_n 3, 1) := by decide +kernel
theorem dLw_1318 : decode code 1318 = .ok (.iconst 1, 1) := by decide +kernel
theorem dLw_1319 : decode code 1319 = .ok (.iadd, 1) := by decide +kernel
theorem dLw_1320 : decode code 1320 = .ok (.iaload, 1) := by decide +kernel
theorem dLw_1321 : decode code 1321 = .ok (.invokevirtual 164, 3) := by decide +kernel
theorem dLw_1324 : decode code 1324 = .ok (.if_icmp .eq 156, 3) := by decide +kernel
theorem dLw_1327 : decode code 1327 = .ok (.iconst 0, 1) := by decide +kernel
theorem dLw_1328 : decode code 1328 = .ok (.ireturn, 1) := by decide +kernel
theorem dLw_1329 : decode code 1329 = .ok (.aload_n 1, 1) := by decide +kernel
theorem dLw_1330 : decode code 1330 = .ok (.aload_n 0, 1) := by decide +kernel
theorem dLw_1331 : decode code 1331 = .ok (.iload_n 3, 1) := by decide +kernel
theorem dLw_1332 : decode code 1332 = .ok (.iconst 1, 1) := by decide +kernel
theorem dLw_1333 : decode code 1333 = .ok (.iadd, 1) := by decide +kernel
theorem dLw_1334 : decode code 1334 = .ok (.iaload, 1) := by decide +kernel
theorem dLw_1335 : decode code 1335 = .ok (.aload_n 0, 1) := by decide +kernel
theorem dLw_1336 : decode code 1336 = .ok (.iload_n 3, 1) := by decide +kernel
theorem dLw_1337 : decode code 1337 = .ok (.iconst 2, 1) := by decide +kernel
theorem dLw_1338 : decode code 1338 = .ok (.iadd, 1) := by decide +kernel
theorem dLw_1339 : decode code 1339 = .ok (.iaload, 1) := by decide +kernel
theorem dLw_1340 : decode code 1340 = .ok (.invokevirtual 165, 3) := by decide +kernel
theorem dLw_1343 : decode code 1343 = .ok (.aload_n 2, 1) := by decide +kernel
theorem dLw_1344 : decode code 1344 = .ok (.aload_n 0, 1) := by decide +kernel
theorem dLw_1345 : decode code 1345 = .ok (.iload_n 3, 1) := by decide +kernel
theorem dLw_1346 : decode code 1346 = .ok (.iconst 1, 1) := by decide +kernel
theorem dLw_1347 : decode code 1347 = .ok (.iadd, 1) := by decide +kernel
theorem dLw_1348 : decode code 1348 = .ok (.iaload, 1) := by decide +kernel
theorem dLw_1349 : decode code 1349 = .ok (.aload_n 0, 1) := by decide +kernel
theorem dLw_1350 : decode code 1350 = .ok (.iload_n 3, 1) := by decide +kernel
theorem dLw_1351 : decode code 1351 = .ok (.iconst 2, 1) := by decide +kernel
theorem dLw_1352 : decode code 1352 = .ok (.iadd, 1) := by decide +kernel
theorem dLw_1353 : decode code 1353 = .ok (.iaload, 1) := by decide +kernel
theorem dLw_1354 : decode code 1354 = .ok (.invokevirtual 168, 3) := by decide +kernel
theorem dLw_1357 : decode code 1357 = .ok (.if_icmp .eq 123, 3) := by decide +kernel
theorem dLw_1360 : decode code 1360 = .ok (.iconst 0, 1) := by decide +kernel
theorem dLw_1361 : decode code 1361 = .ok (.ireturn, 1) := by decide +kernel
theorem dLw_1362 : decode code 1362 = .ok (.aload_n 1, 1) := by decide +kernel
theorem dLw_1363 : decode code 1363 = .ok (.aload_n 0, 1) := by decide +kernel
theorem dLw_1364 : decode code 1364 = .ok (.iload_n 3, 1) := by decide +kernel
theorem dLw_1365 : decode code 1365 = .ok (.iconst 1, 1) := by decide +kernel
theorem dLw_1366 : decode code 1366 = .ok (.iadd, 1) := by decide +kernel
theorem dLw_1367 : decode code 1367 = .ok (.iaload, 1) := by decide +kernel
theorem dLw_1368 : decode code 1368 = .ok (.aload_n 0, 1) := by decide +kernel
theorem dLw_1369 : decode code 1369 = .ok (.iload_n 3, 1) := by decide +kernel
theorem dLw_1370 : decode code 1370 = .ok (.iconst 2, 1) := by decide +kernel
theorem dLw_1371 : decode code 1371 = .ok (.iadd, 1) := by decide +kernel
theorem dLw_1372 : decode code 1372 = .ok (.iaload, 1) := by decide +kernel
theorem dLw_1373 : decode code 1373 = .ok (.invokevirtual 169, 3) := by decide +kernel
theorem dLw_1376 : decode code 1376 = .ok (.aload_n 2, 1) := by decide +kernel
theorem dLw_1377 : decode code 1377 = .ok (.aload_n 0, 1) := by decide +kernel
theorem dLw_1378 : decode code 1378 = .ok (.iload_n 3, 1) := by decide +kernel
theorem dLw_1379 : decode code 1379 = .ok (.iconst 1, 1) := by decide +kernel
theorem dLw_1380 : decode code 1380 = .ok (.iadd, 1) := by decide +kernel
theorem dLw_1381 : decode code 1381 = .ok (.iaload, 1) := by decide +kernel
theorem dLw_1382 : decode code 1382 = .ok (.aload_n 0, 1) := by decide +kernel
theorem dLw_1383 : decode code 1383 = .ok (.iload_n 3, 1) := by decide +kernel
theorem dLw_1384 : decode code 1384 = .ok (.iconst 2, 1) := by decide +kernel
theorem dLw_1385 : decode code 1385 = .ok (.iadd, 1) := by decide +kernel
theorem dLw_1386 : decode code 1386 = .ok (.iaload, 1) := by decide +kernel
theorem dLw_1387 : decode code 1387 = .ok (.invokevirtual 172, 3) := by decide +kernel
theorem dLw_1390 : decode code 1390 = .ok (.if_icmp .eq 90, 3) := by decide +kernel
theorem dLw_1393 : decode code 1393 = .ok (.iconst 0, 1) := by decide +kernel
theorem dLw_1394 : decode code 1394 = .ok (.ireturn, 1) := by decide +kernel
theorem dLw_1395 : decode code 1395 = .ok (.aload_n 1, 1) := by decide +kernel
theorem dLw_1396 : decode code 1396 = .ok (.invokevirtual 173, 3) := by decide +kernel
theorem dLw_1399 : decode code 1399 = .ok (.aload_n 2, 1) := by decide +kernel
theorem dLw_1400 : decode code 1400 = .ok (.invokevirtual 176, 3) := by decide +kernel
theorem dLw_1403 : decode code 1403 = .ok (.if_icmp .eq 77, 3) := by decide +kernel
theorem dLw_1406 : decode code 1406 = .ok (.iconst 0, 1) := by decide +kernel
theorem dLw_1407 : decode code 1407 = .ok (.ireturn, 1) := by decide +kernel
theorem dLw_1408 : decode code 1408 = .ok (.aload_n 1, 1) := by decide +kernel
theorem dLw_1409 : decode code 1409 = .ok (.invokevirtual 177, 3) := by decide +kernel
theorem dLw_1412 : decode code 1412 = .ok (.aload_n 2, 1) := by decide +kernel
theorem dLw_1413 : decode code 1413 = .ok (.invokevirtual 180, 3) := by decide +kernel
theorem dLw_1416 : decode code 1416 = .ok (.if_icmp .eq 64, 3) := by decide +kernel
theorem dLw_1419 : decode code 1419 = .ok (.iconst 0, 1) := by decide +kernel
theorem dLw_1420 : decode code 1420 = .ok (.ireturn, 1) := by decide +kernel
theorem dLw_1421 : decode code 1421 = .ok (.aload_n 1, 1) := by decide +kernel
theorem dLw_1422 : decode code 1422 = .ok (.invokevirtual 181, 3) := by decide +kernel
theorem dLw_1425 : decode code 1425 = .ok (.aload_n 2, 1) := by decide +kernel
theorem dLw_1426 : decode code 1426 = .ok (.invokevirtual 184, 3) := by decide +kernel
theorem dLw_1429 : decode code 1429 = .ok (.if_icmp .eq 51, 3) := by decide +kernel
theorem dLw_1432 : decode code 1432 = .ok (.iconst 0, 1) := by decide +kernel
theorem dLw_1433 : decode code 1433 = .ok (.ireturn, 1) := by decide +kernel
theorem dLw_1434 : decode code 1434 = .ok (.aload_n 1, 1) := by decide +kernel
theorem dLw_1435 : decode code 1435 = .ok (.aload_n 0, 1) := by decide +kernel
theorem dLw_1436 : decode code 1436 = .ok (.iload_n 3, 1) := by decide +kernel
theorem dLw_1437 : decode code 1437 = .ok (.iconst 1, 1) := by decide +kernel
theorem dLw_1438 : decode code 1438 = .ok (.iadd, 1) := by decide +kernel
theorem dLw_1439 : decode code 1439 = .ok (.iaload, 1) := by decide +kernel
theorem dLw_1440 : decode code 1440 = .ok (.invokevirtual 185, 3) := by decide +kernel
theorem dLw_1443 : decode code 1443 = .ok (.aload_n 2, 1) := by decide +kernel
theorem dLw_1444 : decode code 1444 = .ok (.aload_n 0, 1) := by decide +kernel
theorem dLw_1445 : decode code 1445 = .ok (.iload_n 3, 1) := by decide +kernel
theorem dLw_1446 : decode code 1446 = .ok (.iconst 1, 1) := by decide +kernel
theorem dLw_1447 : decode code 1447 = .ok (.iadd, 1) := by decide +kernel
theorem dLw_1448 : decode code 1448 = .ok (.iaload, 1) := by decide +kernel
theorem dLw_1449 : decode code 1449 = .ok (.invokevirtual 188, 3) := by decide +kernel
theorem dLw_1452 : decode code 1452 = .ok (.if_icmp .eq 28, 3) := by decide +kernel
theorem dLw_1455 : decode code 1455 = .ok (.iconst 0, 1) := by decide +kernel
theorem dLw_1456 : decode code 1456 = .ok (.ireturn, 1) := by decide +kernel
theorem dLw_1457 : decode code 1457 = .ok (.aload_n 1, 1) := by decide +kernel
theorem dLw_1458 : decode code 1458 = .ok (.aload_n 0, 1) := by decide +kernel
theorem dLw_1459 : decode code 1459 = .ok (.iload_n 3, 1) := by decide +kernel
theorem dLw_1460 : decode code 1460 = .ok (.iconst 1, 1) := by decide +kernel
theorem dLw_1461 : decode code 1461 = .ok (.iadd, 1) := by decide +kernel
theorem dLw_1462 : decode code 1462 = .ok (.iaload, 1) := by decide +kernel
theorem dLw_1463 : decode code 1463 = .ok (.invokevirtual 189, 3) := by decide +kernel
theorem dLw_1466 : decode code 1466 = .ok (.aload_n 2, 1) := by decide +kernel
theorem dLw_1467 : decode code 1467 = .ok (.aload_n 0, 1) := by decide +kernel
theorem dLw_1468 : decode code 1468 = .ok (.iload_n 3, 1) := by decide +kernel
theorem dLw_1469 : decode code 1469 = .ok (.iconst 1, 1) := by decide +kernel
theorem dLw_1470 : decode code 1470 = .ok (.iadd, 1) := by decide +kernel
theorem dLw_1471 : decode code 1471 = .ok (.iaload, 1) := by decide +kernel
theorem dLw_1472 : decode code 1472 = .ok (.invokevirtual 192, 3) := by decide +kernel
theorem dLw_1475 : decode code 1475 = .ok (.if_icmp .eq 5, 3) := by decide +kernel
theorem dLw_1478 : decode code 1478 = .ok (.iconst 0, 1) := by decide +kernel
theorem dLw_1479 : decode code 1479 = .ok (.ireturn, 1) := by decide +kernel
theorem dLw_1480 : decode code 1480 = .ok (.iinc 3 6, 3) := by decide +kernel
theorem dLw_1483 : decode code 1483 = .ok (.goto (-1465), 3) := by decide +kernel
theorem dLw_1486 : decode code 1486 = .ok (.iconst 1, 1) := by decide +kernel
theorem dLw_1487 : decode code 1487 = .ok (.ireturn, 1) := by decide +kernel
