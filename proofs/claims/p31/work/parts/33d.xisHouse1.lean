theorem dL_isHouse_244 : decode cL_isHouse 244 = .ok (.iadd, 1) := by decide +kernel
theorem dL_isHouse_245 : decode cL_isHouse 245 = .ok (.istore 7, 2) := by decide +kernel
theorem dL_isHouse_247 : decode cL_isHouse 247 = .ok (.iload_n 3, 1) := by decide +kernel
theorem dL_isHouse_248 : decode cL_isHouse 248 = .ok (.ifCond .eq 71, 3) := by decide +kernel
theorem dL_isHouse_251 : decode cL_isHouse 251 = .ok (.aload_n 0, 1) := by decide +kernel
theorem dL_isHouse_252 : decode cL_isHouse 252 = .ok (.iload 8, 2) := by decide +kernel
theorem dL_isHouse_254 : decode cL_isHouse 254 = .ok (.bipush 8, 2) := by decide +kernel
theorem dL_isHouse_256 : decode cL_isHouse 256 = .ok (.invokestatic 143, 3) := by decide +kernel
theorem dL_isHouse_259 : decode cL_isHouse 259 = .ok (.iconst 1, 1) := by decide +kernel
theorem dL_isHouse_260 : decode cL_isHouse 260 = .ok (.if_icmp .ne 7, 3) := by decide +kernel
theorem dL_isHouse_263 : decode cL_isHouse 263 = .ok (.iconst 1, 1) := by decide +kernel
theorem dL_isHouse_264 : decode cL_isHouse 264 = .ok (.goto 4, 3) := by decide +kernel
theorem dL_isHouse_267 : decode cL_isHouse 267 = .ok (.iconst 0, 1) := by decide +kernel
theorem dL_isHouse_268 : decode cL_isHouse 268 = .ok (.aload_n 0, 1) := by decide +kernel
theorem dL_isHouse_269 : decode cL_isHouse 269 = .ok (.iload 8, 2) := by decide +kernel
theorem dL_isHouse_271 : decode cL_isHouse 271 = .ok (.iconst 5, 1) := by decide +kernel
theorem dL_isHouse_272 : decode cL_isHouse 272 = .ok (.invokestatic 143, 3) := by decide +kernel
theorem dL_isHouse_275 : decode cL_isHouse 275 = .ok (.iconst 2, 1) := by decide +kernel
theorem dL_isHouse_276 : decode cL_isHouse 276 = .ok (.if_icmp .eq 31, 3) := by decide +kernel
theorem dL_isHouse_279 : decode cL_isHouse 279 = .ok (.aload_n 0, 1) := by decide +kernel
theorem dL_isHouse_280 : decode cL_isHouse 280 = .ok (.iload 8, 2) := by decide +kernel
theorem dL_isHouse_282 : decode cL_isHouse 282 = .ok (.iconst 5, 1) := by decide +kernel
theorem dL_isHouse_283 : decode cL_isHouse 283 = .ok (.invokestatic 143, 3) := by decide +kernel
theorem dL_isHouse_286 : decode cL_isHouse 286 = .ok (.ifCond .ne 25, 3) := by decide +kernel
theorem dL_isHouse_289 : decode cL_isHouse 289 = .ok (.aload_n 0, 1) := by decide +kernel
theorem dL_isHouse_290 : decode cL_isHouse 290 = .ok (.iload 8, 2) := by decide +kernel
theorem dL_isHouse_292 : decode cL_isHouse 292 = .ok (.bipush 6, 2) := by decide +kernel
theorem dL_isHouse_294 : decode cL_isHouse 294 = .ok (.invokestatic 143, 3) := by decide +kernel
theorem dL_isHouse_297 : decode cL_isHouse 297 = .ok (.aload_n 0, 1) := by decide +kernel
theorem dL_isHouse_298 : decode cL_isHouse 298 = .ok (.iload 8, 2) := by decide +kernel
theorem dL_isHouse_300 : decode cL_isHouse 300 = .ok (.iconst 3, 1) := by decide +kernel
theorem dL_isHouse_301 : decode cL_isHouse 301 = .ok (.invokestatic 143, 3) := by decide +kernel
theorem dL_isHouse_304 : decode cL_isHouse 304 = .ok (.if_icmp .le 7, 3) := by decide +kernel
theorem dL_isHouse_307 : decode cL_isHouse 307 = .ok (.iconst 1, 1) := by decide +kernel
theorem dL_isHouse_308 : decode cL_isHouse 308 = .ok (.goto 4, 3) := by decide +kernel
theorem dL_isHouse_311 : decode cL_isHouse 311 = .ok (.iconst 0, 1) := by decide +kernel
theorem dL_isHouse_312 : decode cL_isHouse 312 = .ok (.if_icmp .ne 7, 3) := by decide +kernel
theorem dL_isHouse_315 : decode cL_isHouse 315 = .ok (.iconst 1, 1) := by decide +kernel
theorem dL_isHouse_316 : decode cL_isHouse 316 = .ok (.goto 4, 3) := by decide +kernel
theorem dL_isHouse_319 : decode cL_isHouse 319 = .ok (.iconst 0, 1) := by decide +kernel
theorem dL_isHouse_320 : decode cL_isHouse 320 = .ok (.istore_n 3, 1) := by decide +kernel
theorem dL_isHouse_321 : decode cL_isHouse 321 = .ok (.iinc 8 1, 3) := by decide +kernel
theorem dL_isHouse_324 : decode cL_isHouse 324 = .ok (.goto (-173), 3) := by decide +kernel
theorem dL_isHouse_327 : decode cL_isHouse 327 = .ok (.iload_n 3, 1) := by decide +kernel
theorem dL_isHouse_328 : decode cL_isHouse 328 = .ok (.ifCond .eq 150, 3) := by decide +kernel
theorem dL_isHouse_331 : decode cL_isHouse 331 = .ok (.aload_n 0, 1) := by decide +kernel
theorem dL_isHouse_332 : decode cL_isHouse 332 = .ok (.iload 4, 2) := by decide +kernel
theorem dL_isHouse_334 : decode cL_isHouse 334 = .ok (.iconst 5, 1) := by decide +kernel
theorem dL_isHouse_335 : decode cL_isHouse 335 = .ok (.invokestatic 136, 3) := by decide +kernel
theorem dL_isHouse_338 : decode cL_isHouse 338 = .ok (.iload 5, 2) := by decide +kernel
theorem dL_isHouse_340 : decode cL_isHouse 340 = .ok (.if_icmp .ne 138, 3) := by decide +kernel
theorem dL_isHouse_343 : decode cL_isHouse 343 = .ok (.aload_n 0, 1) := by decide +kernel
theorem dL_isHouse_344 : decode cL_isHouse 344 = .ok (.iload 4, 2) := by decide +kernel
theorem dL_isHouse_346 : decode cL_isHouse 346 = .ok (.bipush 6, 2) := by decide +kernel
theorem dL_isHouse_348 : decode cL_isHouse 348 = .ok (.invokestatic 136, 3) := by decide +kernel
theorem dL_isHouse_351 : decode cL_isHouse 351 = .ok (.iload 6, 2) := by decide +kernel
theorem dL_isHouse_353 : decode cL_isHouse 353 = .ok (.if_icmp .ne 125, 3) := by decide +kernel
theorem dL_isHouse_356 : decode cL_isHouse 356 = .ok (.aload_n 0, 1) := by decide +kernel
theorem dL_isHouse_357 : decode cL_isHouse 357 = .ok (.iload 4, 2) := by decide +kernel
theorem dL_isHouse_359 : decode cL_isHouse 359 = .ok (.iconst 4, 1) := by decide +kernel
theorem dL_isHouse_360 : decode cL_isHouse 360 = .ok (.invokestatic 136, 3) := by decide +kernel
theorem dL_isHouse_363 : decode cL_isHouse 363 = .ok (.iconst 1, 1) := by decide +kernel
theorem dL_isHouse_364 : decode cL_isHouse 364 = .ok (.if_icmp .ne 7, 3) := by decide +kernel
theorem dL_isHouse_367 : decode cL_isHouse 367 = .ok (.iconst 1, 1) := by decide +kernel
theorem dL_isHouse_368 : decode cL_isHouse 368 = .ok (.goto 4, 3) := by decide +kernel
theorem dL_isHouse_371 : decode cL_isHouse 371 = .ok (.iconst 0, 1) := by decide +kernel
theorem dL_isHouse_372 : decode cL_isHouse 372 = .ok (.iload 7, 2) := by decide +kernel
theorem dL_isHouse_374 : decode cL_isHouse 374 = .ok (.iconst 1, 1) := by decide +kernel
theorem dL_isHouse_375 : decode cL_isHouse 375 = .ok (.if_icmp .le 17, 3) := by decide +kernel
theorem dL_isHouse_378 : decode cL_isHouse 378 = .ok (.iload 6, 2) := by decide +kernel
theorem dL_isHouse_380 : decode cL_isHouse 380 = .ok (.aload_n 0, 1) := by decide +kernel
theorem dL_isHouse_381 : decode cL_isHouse 381 = .ok (.iconst 1, 1) := by decide +kernel
theorem dL_isHouse_382 : decode cL_isHouse 382 = .ok (.invokestatic 103, 3) := by decide +kernel
theorem dL_isHouse_385 : decode cL_isHouse 385 = .ok (.if_icmp .lt 7, 3) := by decide +kernel
theorem dL_isHouse_388 : decode cL_isHouse 388 = .ok (.iconst 1, 1) := by decide +kernel
theorem dL_isHouse_389 : decode cL_isHouse 389 = .ok (.goto 4, 3) := by decide +kernel
theorem dL_isHouse_392 : decode cL_isHouse 392 = .ok (.iconst 0, 1) := by decide +kernel
theorem dL_isHouse_393 : decode cL_isHouse 393 = .ok (.if_icmp .ne 85, 3) := by decide +kernel
theorem dL_isHouse_396 : decode cL_isHouse 396 = .ok (.aload_n 0, 1) := by decide +kernel
theorem dL_isHouse_397 : decode cL_isHouse 397 = .ok (.iload 4, 2) := by decide +kernel
theorem dL_isHouse_399 : decode cL_isHouse 399 = .ok (.iconst 3, 1) := by decide +kernel
theorem dL_isHouse_400 : decode cL_isHouse 400 = .ok (.invokestatic 136, 3) := by decide +kernel
theorem dL_isHouse_403 : decode cL_isHouse 403 = .ok (.iconst 1, 1) := by decide +kernel
theorem dL_isHouse_404 : decode cL_isHouse 404 = .ok (.if_icmp .ne 7, 3) := by decide +kernel
theorem dL_isHouse_407 : decode cL_isHouse 407 = .ok (.iconst 1, 1) := by decide +kernel
theorem dL_isHouse_408 : decode cL_isHouse 408 = .ok (.goto 4, 3) := by decide +kernel
theorem dL_isHouse_411 : decode cL_isHouse 411 = .ok (.iconst 0, 1) := by decide +kernel
theorem dL_isHouse_412 : decode cL_isHouse 412 = .ok (.aload_n 0, 1) := by decide +kernel
theorem dL_isHouse_413 : decode cL_isHouse 413 = .ok (.iload 4, 2) := by decide +kernel
theorem dL_isHouse_415 : decode cL_isHouse 415 = .ok (.iconst 1, 1) := by decide +kernel
theorem dL_isHouse_416 : decode cL_isHouse 416 = .ok (.invokestatic 136, 3) := by decide +kernel
theorem dL_isHouse_419 : decode cL_isHouse 419 = .ok (.ifCond .le 17, 3) := by decide +kernel
theorem dL_isHouse_422 : decode cL_isHouse 422 = .ok (.aload_n 0, 1) := by decide +kernel
theorem dL_isHouse_423 : decode cL_isHouse 423 = .ok (.iload 4, 2) := by decide +kernel
theorem dL_isHouse_425 : decode cL_isHouse 425 = .ok (.iconst 2, 1) := by decide +kernel
theorem dL_isHouse_426 : decode cL_isHouse 426 = .ok (.invokestatic 136, 3) := by decide +kernel
theorem dL_isHouse_429 : decode cL_isHouse 429 = .ok (.ifCond .ne 7, 3) := by decide +kernel
theorem dL_isHouse_432 : decode cL_isHouse 432 = .ok (.iconst 1, 1) := by decide +kernel
theorem dL_isHouse_433 : decode cL_isHouse 433 = .ok (.goto 4, 3) := by decide +kernel
theorem dL_isHouse_436 : decode cL_isHouse 436 = .ok (.iconst 0, 1) := by decide +kernel
theorem dL_isHouse_437 : decode cL_isHouse 437 = .ok (.if_icmp .ne 41, 3) := by decide +kernel
theorem dL_isHouse_440 : decode cL_isHouse 440 = .ok (.aload_n 0, 1) := by decide +kernel
theorem dL_isHouse_441 : decode cL_isHouse 441 = .ok (.iload 4, 2) := by decide +kernel
theorem dL_isHouse_443 : decode cL_isHouse 443 = .ok (.iconst 0, 1) := by decide +kernel
theorem dL_isHouse_444 : decode cL_isHouse 444 = .ok (.invokestatic 136, 3) := by decide +kernel
theorem dL_isHouse_447 : decode cL_isHouse 447 = .ok (.ifCond .lt 31, 3) := by decide +kernel
theorem dL_isHouse_450 : decode cL_isHouse 450 = .ok (.aload_n 0, 1) := by decide +kernel
theorem dL_isHouse_451 : decode cL_isHouse 451 = .ok (.iload 4, 2) := by decide +kernel
theorem dL_isHouse_453 : decode cL_isHouse 453 = .ok (.iconst 0, 1) := by decide +kernel
theorem dL_isHouse_454 : decode cL_isHouse 454 = .ok (.invokestatic 136, 3) := by decide +kernel
theorem dL_isHouse_457 : decode cL_isHouse 457 = .ok (.ldc 173, 2) := by decide +kernel
theorem dL_isHouse_459 : decode cL_isHouse 459 = .ok (.if_icmp .gt 19, 3) := by decide +kernel
theorem dL_isHouse_462 : decode cL_isHouse 462 = .ok (.aload_n 0, 1) := by decide +kernel
theorem dL_isHouse_463 : decode cL_isHouse 463 = .ok (.iload 4, 2) := by decide +kernel
theorem dL_isHouse_465 : decode cL_isHouse 465 = .ok (.iconst 1, 1) := by decide +kernel
theorem dL_isHouse_466 : decode cL_isHouse 466 = .ok (.invokestatic 136, 3) := by decide +kernel
theorem dL_isHouse_469 : decode cL_isHouse 469 = .ok (.bipush 31, 2) := by decide +kernel
theorem dL_isHouse_471 : decode cL_isHouse 471 = .ok (.if_icmp .gt 7, 3) := by decide +kernel
theorem dL_isHouse_474 : decode cL_isHouse 474 = .ok (.iconst 1, 1) := by decide +kernel
theorem dL_isHouse_475 : decode cL_isHouse 475 = .ok (.goto 4, 3) := by decide +kernel
theorem dL_isHouse_478 : decode cL_isHouse 478 = .ok (.iconst 0, 1) := by decide +kernel
theorem dL_isHouse_479 : decode cL_isHouse 479 = .ok (.istore_n 3, 1) := by decide +kernel
theorem dL_isHouse_480 : decode cL_isHouse 480 = .ok (.iconst 0, 1) := by decide +kernel
theorem dL_isHouse_481 : decode cL_isHouse 481 = .ok (.istore 8, 2) := by decide +kernel
theorem dL_isHouse_483 : decode cL_isHouse 483 = .ok (.iload 8, 2) := by decide +kernel
theorem dL_isHouse_485 : decode cL_isHouse 485 = .ok (.iload_n 1, 1) := by decide +kernel
theorem dL_isHouse_486 : decode cL_isHouse 486 = .ok (.if_icmp .gt 56, 3) := by decide +kernel
theorem dL_isHouse_489 : decode cL_isHouse 489 = .ok (.iload_n 3, 1) := by decide +kernel
theorem dL_isHouse_490 : decode cL_isHouse 490 = .ok (.ifCond .eq 52, 3) := by decide +kernel
theorem dL_isHouse_493 : decode cL_isHouse 493 = .ok (.aload_n 0, 1) := by decide +kernel
