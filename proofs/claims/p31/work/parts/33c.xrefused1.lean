theorem dL_refused_261 : decode cL_refused 261 = .ok (.aload_n 0, 1) := by decide +kernel
theorem dL_refused_262 : decode cL_refused 262 = .ok (.bipush 15, 2) := by decide +kernel
theorem dL_refused_264 : decode cL_refused 264 = .ok (.invokestatic 103, 3) := by decide +kernel
theorem dL_refused_267 : decode cL_refused 267 = .ok (.sipush (-2051), 3) := by decide +kernel
theorem dL_refused_270 : decode cL_refused 270 = .ok (.if_icmp .ne 33, 3) := by decide +kernel
theorem dL_refused_273 : decode cL_refused 273 = .ok (.aload_n 0, 1) := by decide +kernel
theorem dL_refused_274 : decode cL_refused 274 = .ok (.iload_n 3, 1) := by decide +kernel
theorem dL_refused_275 : decode cL_refused 275 = .ok (.bipush 7, 2) := by decide +kernel
theorem dL_refused_277 : decode cL_refused 277 = .ok (.invokestatic 136, 3) := by decide +kernel
theorem dL_refused_280 : decode cL_refused 280 = .ok (.sipush (-2053), 3) := by decide +kernel
theorem dL_refused_283 : decode cL_refused 283 = .ok (.if_icmp .ne 20, 3) := by decide +kernel
theorem dL_refused_286 : decode cL_refused 286 = .ok (.aload_n 0, 1) := by decide +kernel
theorem dL_refused_287 : decode cL_refused 287 = .ok (.iconst 0, 1) := by decide +kernel
theorem dL_refused_288 : decode cL_refused 288 = .ok (.bipush 7, 2) := by decide +kernel
theorem dL_refused_290 : decode cL_refused 290 = .ok (.invokestatic 136, 3) := by decide +kernel
theorem dL_refused_293 : decode cL_refused 293 = .ok (.sipush (-2051), 3) := by decide +kernel
theorem dL_refused_296 : decode cL_refused 296 = .ok (.if_icmp .ne 7, 3) := by decide +kernel
theorem dL_refused_299 : decode cL_refused 299 = .ok (.iconst 1, 1) := by decide +kernel
theorem dL_refused_300 : decode cL_refused 300 = .ok (.goto 4, 3) := by decide +kernel
theorem dL_refused_303 : decode cL_refused 303 = .ok (.iconst 0, 1) := by decide +kernel
theorem dL_refused_304 : decode cL_refused 304 = .ok (.istore 5, 2) := by decide +kernel
theorem dL_refused_306 : decode cL_refused 306 = .ok (.iload 5, 2) := by decide +kernel
theorem dL_refused_308 : decode cL_refused 308 = .ok (.ifCond .eq 346, 3) := by decide +kernel
theorem dL_refused_311 : decode cL_refused 311 = .ok (.aload_n 0, 1) := by decide +kernel
theorem dL_refused_312 : decode cL_refused 312 = .ok (.iload_n 3, 1) := by decide +kernel
theorem dL_refused_313 : decode cL_refused 313 = .ok (.iconst 3, 1) := by decide +kernel
theorem dL_refused_314 : decode cL_refused 314 = .ok (.iconst 0, 1) := by decide +kernel
theorem dL_refused_315 : decode cL_refused 315 = .ok (.iconst 0, 1) := by decide +kernel
theorem dL_refused_316 : decode cL_refused 316 = .ok (.iconst 0, 1) := by decide +kernel
theorem dL_refused_317 : decode cL_refused 317 = .ok (.invokestatic 138, 3) := by decide +kernel
theorem dL_refused_320 : decode cL_refused 320 = .ok (.sipush (-2053), 3) := by decide +kernel
theorem dL_refused_323 : decode cL_refused 323 = .ok (.if_icmp .ne 331, 3) := by decide +kernel
theorem dL_refused_326 : decode cL_refused 326 = .ok (.aload_n 0, 1) := by decide +kernel
theorem dL_refused_327 : decode cL_refused 327 = .ok (.iconst 0, 1) := by decide +kernel
theorem dL_refused_328 : decode cL_refused 328 = .ok (.iconst 3, 1) := by decide +kernel
theorem dL_refused_329 : decode cL_refused 329 = .ok (.iconst 1, 1) := by decide +kernel
theorem dL_refused_330 : decode cL_refused 330 = .ok (.iconst 0, 1) := by decide +kernel
theorem dL_refused_331 : decode cL_refused 331 = .ok (.iconst 1, 1) := by decide +kernel
theorem dL_refused_332 : decode cL_refused 332 = .ok (.invokestatic 138, 3) := by decide +kernel
theorem dL_refused_335 : decode cL_refused 335 = .ok (.sipush (-2051), 3) := by decide +kernel
theorem dL_refused_338 : decode cL_refused 338 = .ok (.if_icmp .ne 316, 3) := by decide +kernel
theorem dL_refused_341 : decode cL_refused 341 = .ok (.aload_n 0, 1) := by decide +kernel
theorem dL_refused_342 : decode cL_refused 342 = .ok (.iconst 0, 1) := by decide +kernel
theorem dL_refused_343 : decode cL_refused 343 = .ok (.iconst 0, 1) := by decide +kernel
theorem dL_refused_344 : decode cL_refused 344 = .ok (.iconst 0, 1) := by decide +kernel
theorem dL_refused_345 : decode cL_refused 345 = .ok (.iconst 0, 1) := by decide +kernel
theorem dL_refused_346 : decode cL_refused 346 = .ok (.iconst 1, 1) := by decide +kernel
theorem dL_refused_347 : decode cL_refused 347 = .ok (.invokestatic 138, 3) := by decide +kernel
theorem dL_refused_350 : decode cL_refused 350 = .ok (.sipush (-2051), 3) := by decide +kernel
theorem dL_refused_353 : decode cL_refused 353 = .ok (.if_icmp .ne 301, 3) := by decide +kernel
theorem dL_refused_356 : decode cL_refused 356 = .ok (.aload_n 0, 1) := by decide +kernel
theorem dL_refused_357 : decode cL_refused 357 = .ok (.iconst 0, 1) := by decide +kernel
theorem dL_refused_358 : decode cL_refused 358 = .ok (.iconst 0, 1) := by decide +kernel
theorem dL_refused_359 : decode cL_refused 359 = .ok (.iconst 1, 1) := by decide +kernel
theorem dL_refused_360 : decode cL_refused 360 = .ok (.bipush 10, 2) := by decide +kernel
theorem dL_refused_362 : decode cL_refused 362 = .ok (.iconst 1, 1) := by decide +kernel
theorem dL_refused_363 : decode cL_refused 363 = .ok (.invokestatic 138, 3) := by decide +kernel
theorem dL_refused_366 : decode cL_refused 366 = .ok (.sipush (-2051), 3) := by decide +kernel
theorem dL_refused_369 : decode cL_refused 369 = .ok (.if_icmp .ne 285, 3) := by decide +kernel
theorem dL_refused_372 : decode cL_refused 372 = .ok (.aload_n 0, 1) := by decide +kernel
theorem dL_refused_373 : decode cL_refused 373 = .ok (.iconst 0, 1) := by decide +kernel
theorem dL_refused_374 : decode cL_refused 374 = .ok (.iconst 0, 1) := by decide +kernel
theorem dL_refused_375 : decode cL_refused 375 = .ok (.iconst 1, 1) := by decide +kernel
theorem dL_refused_376 : decode cL_refused 376 = .ok (.iconst 0, 1) := by decide +kernel
theorem dL_refused_377 : decode cL_refused 377 = .ok (.iconst 4, 1) := by decide +kernel
theorem dL_refused_378 : decode cL_refused 378 = .ok (.invokestatic 138, 3) := by decide +kernel
theorem dL_refused_381 : decode cL_refused 381 = .ok (.sipush (-2051), 3) := by decide +kernel
theorem dL_refused_384 : decode cL_refused 384 = .ok (.if_icmp .ne 270, 3) := by decide +kernel
theorem dL_refused_387 : decode cL_refused 387 = .ok (.aload_n 0, 1) := by decide +kernel
theorem dL_refused_388 : decode cL_refused 388 = .ok (.aload_n 0, 1) := by decide +kernel
theorem dL_refused_389 : decode cL_refused 389 = .ok (.bipush 12, 2) := by decide +kernel
theorem dL_refused_391 : decode cL_refused 391 = .ok (.invokestatic 103, 3) := by decide +kernel
theorem dL_refused_394 : decode cL_refused 394 = .ok (.iconst 3, 1) := by decide +kernel
theorem dL_refused_395 : decode cL_refused 395 = .ok (.invokestatic 141, 3) := by decide +kernel
theorem dL_refused_398 : decode cL_refused 398 = .ok (.sipush (-2053), 3) := by decide +kernel
theorem dL_refused_401 : decode cL_refused 401 = .ok (.if_icmp .ne 253, 3) := by decide +kernel
theorem dL_refused_404 : decode cL_refused 404 = .ok (.aload_n 0, 1) := by decide +kernel
theorem dL_refused_405 : decode cL_refused 405 = .ok (.iconst (-1), 1) := by decide +kernel
theorem dL_refused_406 : decode cL_refused 406 = .ok (.bipush 9, 2) := by decide +kernel
theorem dL_refused_408 : decode cL_refused 408 = .ok (.invokestatic 143, 3) := by decide +kernel
theorem dL_refused_411 : decode cL_refused 411 = .ok (.sipush (-2053), 3) := by decide +kernel
theorem dL_refused_414 : decode cL_refused 414 = .ok (.if_icmp .ne 240, 3) := by decide +kernel
theorem dL_refused_417 : decode cL_refused 417 = .ok (.aload_n 0, 1) := by decide +kernel
theorem dL_refused_418 : decode cL_refused 418 = .ok (.iconst 4, 1) := by decide +kernel
theorem dL_refused_419 : decode cL_refused 419 = .ok (.iload_n 3, 1) := by decide +kernel
theorem dL_refused_420 : decode cL_refused 420 = .ok (.iconst 0, 1) := by decide +kernel
theorem dL_refused_421 : decode cL_refused 421 = .ok (.iconst 0, 1) := by decide +kernel
theorem dL_refused_422 : decode cL_refused 422 = .ok (.invokestatic 145, 3) := by decide +kernel
theorem dL_refused_425 : decode cL_refused 425 = .ok (.sipush (-2053), 3) := by decide +kernel
theorem dL_refused_428 : decode cL_refused 428 = .ok (.if_icmp .ne 226, 3) := by decide +kernel
theorem dL_refused_431 : decode cL_refused 431 = .ok (.aload_n 0, 1) := by decide +kernel
theorem dL_refused_432 : decode cL_refused 432 = .ok (.iconst 4, 1) := by decide +kernel
theorem dL_refused_433 : decode cL_refused 433 = .ok (.iconst 0, 1) := by decide +kernel
theorem dL_refused_434 : decode cL_refused 434 = .ok (.iconst 0, 1) := by decide +kernel
theorem dL_refused_435 : decode cL_refused 435 = .ok (.iconst 0, 1) := by decide +kernel
theorem dL_refused_436 : decode cL_refused 436 = .ok (.invokestatic 145, 3) := by decide +kernel
theorem dL_refused_439 : decode cL_refused 439 = .ok (.sipush (-2051), 3) := by decide +kernel
theorem dL_refused_442 : decode cL_refused 442 = .ok (.if_icmp .ne 212, 3) := by decide +kernel
theorem dL_refused_445 : decode cL_refused 445 = .ok (.aload_n 0, 1) := by decide +kernel
theorem dL_refused_446 : decode cL_refused 446 = .ok (.iconst 0, 1) := by decide +kernel
theorem dL_refused_447 : decode cL_refused 447 = .ok (.iconst 0, 1) := by decide +kernel
theorem dL_refused_448 : decode cL_refused 448 = .ok (.sipush 10000, 3) := by decide +kernel
theorem dL_refused_451 : decode cL_refused 451 = .ok (.iconst 0, 1) := by decide +kernel
theorem dL_refused_452 : decode cL_refused 452 = .ok (.invokestatic 145, 3) := by decide +kernel
theorem dL_refused_455 : decode cL_refused 455 = .ok (.sipush (-2051), 3) := by decide +kernel
theorem dL_refused_458 : decode cL_refused 458 = .ok (.if_icmp .ne 196, 3) := by decide +kernel
theorem dL_refused_461 : decode cL_refused 461 = .ok (.aload_n 0, 1) := by decide +kernel
theorem dL_refused_462 : decode cL_refused 462 = .ok (.iconst 0, 1) := by decide +kernel
theorem dL_refused_463 : decode cL_refused 463 = .ok (.iconst 0, 1) := by decide +kernel
theorem dL_refused_464 : decode cL_refused 464 = .ok (.iconst 0, 1) := by decide +kernel
theorem dL_refused_465 : decode cL_refused 465 = .ok (.bipush 9, 2) := by decide +kernel
theorem dL_refused_467 : decode cL_refused 467 = .ok (.invokestatic 145, 3) := by decide +kernel
theorem dL_refused_470 : decode cL_refused 470 = .ok (.sipush (-2051), 3) := by decide +kernel
theorem dL_refused_473 : decode cL_refused 473 = .ok (.if_icmp .ne 181, 3) := by decide +kernel
theorem dL_refused_476 : decode cL_refused 476 = .ok (.aload_n 0, 1) := by decide +kernel
theorem dL_refused_477 : decode cL_refused 477 = .ok (.aload_n 0, 1) := by decide +kernel
theorem dL_refused_478 : decode cL_refused 478 = .ok (.bipush 13, 2) := by decide +kernel
theorem dL_refused_480 : decode cL_refused 480 = .ok (.invokestatic 103, 3) := by decide +kernel
theorem dL_refused_483 : decode cL_refused 483 = .ok (.invokestatic 148, 3) := by decide +kernel
theorem dL_refused_486 : decode cL_refused 486 = .ok (.sipush (-2053), 3) := by decide +kernel
theorem dL_refused_489 : decode cL_refused 489 = .ok (.if_icmp .ne 165, 3) := by decide +kernel
theorem dL_refused_492 : decode cL_refused 492 = .ok (.aload_n 0, 1) := by decide +kernel
theorem dL_refused_493 : decode cL_refused 493 = .ok (.iload 4, 2) := by decide +kernel
theorem dL_refused_495 : decode cL_refused 495 = .ok (.iconst 2, 1) := by decide +kernel
theorem dL_refused_496 : decode cL_refused 496 = .ok (.iconst 0, 1) := by decide +kernel
theorem dL_refused_497 : decode cL_refused 497 = .ok (.iconst 0, 1) := by decide +kernel
theorem dL_refused_498 : decode cL_refused 498 = .ok (.invokestatic 150, 3) := by decide +kernel
theorem dL_refused_501 : decode cL_refused 501 = .ok (.sipush (-2051), 3) := by decide +kernel
theorem dL_refused_504 : decode cL_refused 504 = .ok (.if_icmp .ne 150, 3) := by decide +kernel
theorem dL_refused_507 : decode cL_refused 507 = .ok (.aload_n 0, 1) := by decide +kernel
