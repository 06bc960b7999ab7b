/-! ===== the names of the law: refuses (printed; those that the walks use) ===== -/
theorem dL_refuses_243 : decode cL_refuses 243 = .ok (.iconst 0, 1) := by decide +kernel
theorem dL_refuses_244 : decode cL_refuses 244 = .ok (.aload_n 0, 1) := by decide +kernel
theorem dL_refuses_245 : decode cL_refuses 245 = .ok (.invokevirtual 86, 3) := by decide +kernel
theorem dL_refuses_248 : decode cL_refuses 248 = .ok (.sipush 399, 3) := by decide +kernel
theorem dL_refuses_251 : decode cL_refuses 251 = .ok (.invokestatic 98, 3) := by decide +kernel
theorem dL_refuses_254 : decode cL_refuses 254 = .ok (.ldc 15, 2) := by decide +kernel
theorem dL_refuses_256 : decode cL_refuses 256 = .ok (.if_icmp .ne 422, 3) := by decide +kernel
theorem dL_refuses_259 : decode cL_refuses 259 = .ok (.aload_n 0, 1) := by decide +kernel
theorem dL_refuses_260 : decode cL_refuses 260 = .ok (.iload 5, 2) := by decide +kernel
theorem dL_refuses_262 : decode cL_refuses 262 = .ok (.iconst 1, 1) := by decide +kernel
theorem dL_refuses_263 : decode cL_refuses 263 = .ok (.invokestatic 101, 3) := by decide +kernel
theorem dL_refuses_266 : decode cL_refuses 266 = .ok (.ldc 15, 2) := by decide +kernel
theorem dL_refuses_268 : decode cL_refuses 268 = .ok (.if_icmp .ne 410, 3) := by decide +kernel
theorem dL_refuses_271 : decode cL_refuses 271 = .ok (.aload_n 0, 1) := by decide +kernel
theorem dL_refuses_272 : decode cL_refuses 272 = .ok (.iconst 1, 1) := by decide +kernel
theorem dL_refuses_273 : decode cL_refuses 273 = .ok (.aload_n 0, 1) := by decide +kernel
theorem dL_refuses_274 : decode cL_refuses 274 = .ok (.invokevirtual 86, 3) := by decide +kernel
theorem dL_refuses_277 : decode cL_refuses 277 = .ok (.iconst 1, 1) := by decide +kernel
theorem dL_refuses_278 : decode cL_refuses 278 = .ok (.iload_n 3, 1) := by decide +kernel
theorem dL_refuses_279 : decode cL_refuses 279 = .ok (.ifCond .eq 10, 3) := by decide +kernel
theorem dL_refuses_282 : decode cL_refuses 282 = .ok (.bipush (-2), 2) := by decide +kernel
theorem dL_refuses_284 : decode cL_refuses 284 = .ok (.iload_n 2, 1) := by decide +kernel
theorem dL_refuses_285 : decode cL_refuses 285 = .ok (.isub, 1) := by decide +kernel
theorem dL_refuses_286 : decode cL_refuses 286 = .ok (.goto 8, 3) := by decide +kernel
theorem dL_refuses_289 : decode cL_refuses 289 = .ok (.aload_n 1, 1) := by decide +kernel
theorem dL_refuses_290 : decode cL_refuses 290 = .ok (.iconst 0, 1) := by decide +kernel
theorem dL_refuses_291 : decode cL_refuses 291 = .ok (.iaload, 1) := by decide +kernel
theorem dL_refuses_292 : decode cL_refuses 292 = .ok (.iload_n 2, 1) := by decide +kernel
theorem dL_refuses_293 : decode cL_refuses 293 = .ok (.iadd, 1) := by decide +kernel
theorem dL_refuses_294 : decode cL_refuses 294 = .ok (.invokestatic 103, 3) := by decide +kernel
theorem dL_refuses_297 : decode cL_refuses 297 = .ok (.ldc 15, 2) := by decide +kernel
theorem dL_refuses_299 : decode cL_refuses 299 = .ok (.if_icmp .ne 379, 3) := by decide +kernel
theorem dL_refuses_302 : decode cL_refuses 302 = .ok (.aload_n 0, 1) := by decide +kernel
theorem dL_refuses_303 : decode cL_refuses 303 = .ok (.iload_n 3, 1) := by decide +kernel
theorem dL_refuses_304 : decode cL_refuses 304 = .ok (.ifCond .eq 8, 3) := by decide +kernel
theorem dL_refuses_307 : decode cL_refuses 307 = .ok (.iload_n 2, 1) := by decide +kernel
theorem dL_refuses_308 : decode cL_refuses 308 = .ok (.ineg, 1) := by decide +kernel
theorem dL_refuses_309 : decode cL_refuses 309 = .ok (.goto 8, 3) := by decide +kernel
theorem dL_refuses_312 : decode cL_refuses 312 = .ok (.sipush 1024, 3) := by decide +kernel
theorem dL_refuses_315 : decode cL_refuses 315 = .ok (.iload_n 2, 1) := by decide +kernel
theorem dL_refuses_316 : decode cL_refuses 316 = .ok (.iadd, 1) := by decide +kernel
theorem dL_refuses_317 : decode cL_refuses 317 = .ok (.aload_n 0, 1) := by decide +kernel
theorem dL_refuses_318 : decode cL_refuses 318 = .ok (.invokevirtual 86, 3) := by decide +kernel
theorem dL_refuses_321 : decode cL_refuses 321 = .ok (.iconst 1, 1) := by decide +kernel
theorem dL_refuses_322 : decode cL_refuses 322 = .ok (.iconst (-1), 1) := by decide +kernel
theorem dL_refuses_323 : decode cL_refuses 323 = .ok (.invokestatic 103, 3) := by decide +kernel
theorem dL_refuses_326 : decode cL_refuses 326 = .ok (.ldc 18, 2) := by decide +kernel
theorem dL_refuses_328 : decode cL_refuses 328 = .ok (.if_icmp .ne 350, 3) := by decide +kernel
theorem dL_refuses_331 : decode cL_refuses 331 = .ok (.aload_n 0, 1) := by decide +kernel
theorem dL_refuses_332 : decode cL_refuses 332 = .ok (.iconst 1, 1) := by decide +kernel
theorem dL_refuses_333 : decode cL_refuses 333 = .ok (.iload_n 3, 1) := by decide +kernel
theorem dL_refuses_334 : decode cL_refuses 334 = .ok (.ifCond .eq 14, 3) := by decide +kernel
theorem dL_refuses_337 : decode cL_refuses 337 = .ok (.aload_n 0, 1) := by decide +kernel
theorem dL_refuses_338 : decode cL_refuses 338 = .ok (.invokevirtual 86, 3) := by decide +kernel
theorem dL_refuses_341 : decode cL_refuses 341 = .ok (.iconst 1, 1) := by decide +kernel
theorem dL_refuses_342 : decode cL_refuses 342 = .ok (.isub, 1) := by decide +kernel
theorem dL_refuses_343 : decode cL_refuses 343 = .ok (.iload_n 2, 1) := by decide +kernel
theorem dL_refuses_344 : decode cL_refuses 344 = .ok (.isub, 1) := by decide +kernel
theorem dL_refuses_345 : decode cL_refuses 345 = .ok (.goto 8, 3) := by decide +kernel
theorem dL_refuses_348 : decode cL_refuses 348 = .ok (.sipush 400, 3) := by decide +kernel
theorem dL_refuses_351 : decode cL_refuses 351 = .ok (.iload_n 2, 1) := by decide +kernel
theorem dL_refuses_352 : decode cL_refuses 352 = .ok (.iadd, 1) := by decide +kernel
theorem dL_refuses_353 : decode cL_refuses 353 = .ok (.iconst 1, 1) := by decide +kernel
theorem dL_refuses_354 : decode cL_refuses 354 = .ok (.iconst (-1), 1) := by decide +kernel
theorem dL_refuses_355 : decode cL_refuses 355 = .ok (.invokestatic 103, 3) := by decide +kernel
theorem dL_refuses_358 : decode cL_refuses 358 = .ok (.ldc 18, 2) := by decide +kernel
theorem dL_refuses_360 : decode cL_refuses 360 = .ok (.if_icmp .ne 318, 3) := by decide +kernel
theorem dL_refuses_363 : decode cL_refuses 363 = .ok (.aload_n 0, 1) := by decide +kernel
theorem dL_refuses_364 : decode cL_refuses 364 = .ok (.iconst 1, 1) := by decide +kernel
theorem dL_refuses_365 : decode cL_refuses 365 = .ok (.sipush 399, 3) := by decide +kernel
theorem dL_refuses_368 : decode cL_refuses 368 = .ok (.iload_n 3, 1) := by decide +kernel
theorem dL_refuses_369 : decode cL_refuses 369 = .ok (.ifCond .eq 8, 3) := by decide +kernel
theorem dL_refuses_372 : decode cL_refuses 372 = .ok (.iload_n 2, 1) := by decide +kernel
theorem dL_refuses_373 : decode cL_refuses 373 = .ok (.ineg, 1) := by decide +kernel
theorem dL_refuses_374 : decode cL_refuses 374 = .ok (.goto 6, 3) := by decide +kernel
theorem dL_refuses_377 : decode cL_refuses 377 = .ok (.iconst 5, 1) := by decide +kernel
theorem dL_refuses_378 : decode cL_refuses 378 = .ok (.iload_n 2, 1) := by decide +kernel
theorem dL_refuses_379 : decode cL_refuses 379 = .ok (.iadd, 1) := by decide +kernel
theorem dL_refuses_380 : decode cL_refuses 380 = .ok (.iconst (-1), 1) := by decide +kernel
theorem dL_refuses_381 : decode cL_refuses 381 = .ok (.invokestatic 103, 3) := by decide +kernel
theorem dL_refuses_384 : decode cL_refuses 384 = .ok (.ldc 18, 2) := by decide +kernel
theorem dL_refuses_386 : decode cL_refuses 386 = .ok (.if_icmp .ne 292, 3) := by decide +kernel
theorem dL_refuses_389 : decode cL_refuses 389 = .ok (.aload_n 0, 1) := by decide +kernel
theorem dL_refuses_390 : decode cL_refuses 390 = .ok (.iconst 1, 1) := by decide +kernel
theorem dL_refuses_391 : decode cL_refuses 391 = .ok (.sipush 399, 3) := by decide +kernel
theorem dL_refuses_394 : decode cL_refuses 394 = .ok (.iconst 2, 1) := by decide +kernel
theorem dL_refuses_395 : decode cL_refuses 395 = .ok (.iconst (-1), 1) := by decide +kernel
theorem dL_refuses_396 : decode cL_refuses 396 = .ok (.invokestatic 103, 3) := by decide +kernel
theorem dL_refuses_399 : decode cL_refuses 399 = .ok (.ldc 18, 2) := by decide +kernel
theorem dL_refuses_401 : decode cL_refuses 401 = .ok (.if_icmp .ne 277, 3) := by decide +kernel
theorem dL_refuses_404 : decode cL_refuses 404 = .ok (.aload_n 0, 1) := by decide +kernel
theorem dL_refuses_405 : decode cL_refuses 405 = .ok (.iload 6, 2) := by decide +kernel
theorem dL_refuses_407 : decode cL_refuses 407 = .ok (.sipush 399, 3) := by decide +kernel
theorem dL_refuses_410 : decode cL_refuses 410 = .ok (.invokestatic 105, 3) := by decide +kernel
theorem dL_refuses_413 : decode cL_refuses 413 = .ok (.ldc 15, 2) := by decide +kernel
theorem dL_refuses_415 : decode cL_refuses 415 = .ok (.if_icmp .ne 263, 3) := by decide +kernel
theorem dL_refuses_418 : decode cL_refuses 418 = .ok (.aload_n 0, 1) := by decide +kernel
theorem dL_refuses_419 : decode cL_refuses 419 = .ok (.iload 6, 2) := by decide +kernel
theorem dL_refuses_421 : decode cL_refuses 421 = .ok (.invokestatic 107, 3) := by decide +kernel
theorem dL_refuses_424 : decode cL_refuses 424 = .ok (.ldc 15, 2) := by decide +kernel
theorem dL_refuses_426 : decode cL_refuses 426 = .ok (.if_icmp .ne 252, 3) := by decide +kernel
theorem dL_refuses_429 : decode cL_refuses 429 = .ok (.aload_n 0, 1) := by decide +kernel
theorem dL_refuses_430 : decode cL_refuses 430 = .ok (.iload 6, 2) := by decide +kernel
theorem dL_refuses_432 : decode cL_refuses 432 = .ok (.iconst 0, 1) := by decide +kernel
theorem dL_refuses_433 : decode cL_refuses 433 = .ok (.invokestatic 110, 3) := by decide +kernel
theorem dL_refuses_436 : decode cL_refuses 436 = .ok (.ldc 15, 2) := by decide +kernel
theorem dL_refuses_438 : decode cL_refuses 438 = .ok (.if_icmp .ne 240, 3) := by decide +kernel
theorem dL_refuses_441 : decode cL_refuses 441 = .ok (.aload_n 0, 1) := by decide +kernel
theorem dL_refuses_442 : decode cL_refuses 442 = .ok (.iload 4, 2) := by decide +kernel
theorem dL_refuses_444 : decode cL_refuses 444 = .ok (.iconst 0, 1) := by decide +kernel
theorem dL_refuses_445 : decode cL_refuses 445 = .ok (.invokestatic 112, 3) := by decide +kernel
theorem dL_refuses_448 : decode cL_refuses 448 = .ok (.ldc 15, 2) := by decide +kernel
theorem dL_refuses_450 : decode cL_refuses 450 = .ok (.if_icmp .ne 228, 3) := by decide +kernel
theorem dL_refuses_453 : decode cL_refuses 453 = .ok (.aload_n 0, 1) := by decide +kernel
theorem dL_refuses_454 : decode cL_refuses 454 = .ok (.iload_n 2, 1) := by decide +kernel
theorem dL_refuses_455 : decode cL_refuses 455 = .ok (.bipush 10, 2) := by decide +kernel
theorem dL_refuses_457 : decode cL_refuses 457 = .ok (.irem, 1) := by decide +kernel
theorem dL_refuses_458 : decode cL_refuses 458 = .ok (.iload 8, 2) := by decide +kernel
theorem dL_refuses_460 : decode cL_refuses 460 = .ok (.invokestatic 112, 3) := by decide +kernel
theorem dL_refuses_463 : decode cL_refuses 463 = .ok (.ldc 15, 2) := by decide +kernel
theorem dL_refuses_465 : decode cL_refuses 465 = .ok (.if_icmp .ne 213, 3) := by decide +kernel
theorem dL_refuses_468 : decode cL_refuses 468 = .ok (.aload_n 0, 1) := by decide +kernel
theorem dL_refuses_469 : decode cL_refuses 469 = .ok (.iload_n 3, 1) := by decide +kernel
theorem dL_refuses_470 : decode cL_refuses 470 = .ok (.ifCond .eq 9, 3) := by decide +kernel
theorem dL_refuses_473 : decode cL_refuses 473 = .ok (.iconst (-1), 1) := by decide +kernel
theorem dL_refuses_474 : decode cL_refuses 474 = .ok (.iload_n 2, 1) := by decide +kernel
theorem dL_refuses_475 : decode cL_refuses 475 = .ok (.isub, 1) := by decide +kernel
theorem dL_refuses_476 : decode cL_refuses 476 = .ok (.goto 7, 3) := by decide +kernel
theorem dL_refuses_479 : decode cL_refuses 479 = .ok (.bipush 16, 2) := by decide +kernel
theorem dL_refuses_481 : decode cL_refuses 481 = .ok (.iload_n 2, 1) := by decide +kernel
theorem dL_refuses_482 : decode cL_refuses 482 = .ok (.iadd, 1) := by decide +kernel
theorem dL_refuses_483 : decode cL_refuses 483 = .ok (.iconst 0, 1) := by decide +kernel
theorem dL_refuses_484 : decode cL_refuses 484 = .ok (.iconst 1, 1) := by decide +kernel
theorem dL_refuses_485 : decode cL_refuses 485 = .ok (.invokestatic 114, 3) := by decide +kernel
theorem dL_refuses_488 : decode cL_refuses 488 = .ok (.ldc 18, 2) := by decide +kernel
theorem dL_refuses_490 : decode cL_refuses 490 = .ok (.if_icmp .ne 188, 3) := by decide +kernel
theorem dL_refuses_493 : decode cL_refuses 493 = .ok (.aload_n 0, 1) := by decide +kernel
theorem dL_refuses_494 : decode cL_refuses 494 = .ok (.iconst 0, 1) := by decide +kernel
theorem dL_refuses_495 : decode cL_refuses 495 = .ok (.iload_n 3, 1) := by decide +kernel
theorem dL_refuses_496 : decode cL_refuses 496 = .ok (.ifCond .eq 9, 3) := by decide +kernel
theorem dL_refuses_499 : decode cL_refuses 499 = .ok (.iconst (-1), 1) := by decide +kernel
theorem dL_refuses_500 : decode cL_refuses 500 = .ok (.iload_n 2, 1) := by decide +kernel
theorem dL_refuses_501 : decode cL_refuses 501 = .ok (.isub, 1) := by decide +kernel
theorem dL_refuses_502 : decode cL_refuses 502 = .ok (.goto 7, 3) := by decide +kernel
theorem dL_refuses_505 : decode cL_refuses 505 = .ok (.bipush 10, 2) := by decide +kernel
theorem dL_refuses_507 : decode cL_refuses 507 = .ok (.iload_n 2, 1) := by decide +kernel
theorem dL_refuses_508 : decode cL_refuses 508 = .ok (.iadd, 1) := by decide +kernel
theorem dL_refuses_509 : decode cL_refuses 509 = .ok (.iconst 1, 1) := by decide +kernel
theorem dL_refuses_510 : decode cL_refuses 510 = .ok (.invokestatic 114, 3) := by decide +kernel
theorem dL_refuses_513 : decode cL_refuses 513 = .ok (.ldc 18, 2) := by decide +kernel
