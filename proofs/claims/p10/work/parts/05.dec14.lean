theorem d_Law_law_267 : decode b_Law_law 267 = .ok (.pop, 1) := by decide +kernel
theorem d_Law_law_268 : decode b_Law_law 268 = .ok (.aload_n 2, 1) := by decide +kernel
theorem d_Law_law_269 : decode b_Law_law 269 = .ok (.aload_n 0, 1) := by decide +kernel
theorem d_Law_law_270 : decode b_Law_law 270 = .ok (.iload 4, 2) := by decide +kernel
theorem d_Law_law_272 : decode b_Law_law 272 = .ok (.iconst 1, 1) := by decide +kernel
theorem d_Law_law_273 : decode b_Law_law 273 = .ok (.iadd, 1) := by decide +kernel
theorem d_Law_law_274 : decode b_Law_law 274 = .ok (.iaload, 1) := by decide +kernel
theorem d_Law_law_275 : decode b_Law_law 275 = .ok (.aload_n 0, 1) := by decide +kernel
theorem d_Law_law_276 : decode b_Law_law 276 = .ok (.iload 4, 2) := by decide +kernel
theorem d_Law_law_278 : decode b_Law_law 278 = .ok (.iconst 2, 1) := by decide +kernel
theorem d_Law_law_279 : decode b_Law_law 279 = .ok (.iadd, 1) := by decide +kernel
theorem d_Law_law_280 : decode b_Law_law 280 = .ok (.iaload, 1) := by decide +kernel
theorem d_Law_law_281 : decode b_Law_law 281 = .ok (.i2l, 1) := by decide +kernel
theorem d_Law_law_282 : decode b_Law_law 282 = .ok (.bipush 32, 2) := by decide +kernel
theorem d_Law_law_284 : decode b_Law_law 284 = .ok (.lshl, 1) := by decide +kernel
theorem d_Law_law_285 : decode b_Law_law 285 = .ok (.aload_n 0, 1) := by decide +kernel
theorem d_Law_law_286 : decode b_Law_law 286 = .ok (.iload 4, 2) := by decide +kernel
theorem d_Law_law_288 : decode b_Law_law 288 = .ok (.iconst 3, 1) := by decide +kernel
theorem d_Law_law_289 : decode b_Law_law 289 = .ok (.iadd, 1) := by decide +kernel
theorem d_Law_law_290 : decode b_Law_law 290 = .ok (.iaload, 1) := by decide +kernel
theorem d_Law_law_291 : decode b_Law_law 291 = .ok (.i2l, 1) := by decide +kernel
theorem d_Law_law_292 : decode b_Law_law 292 = .ok (.ldc2_w 19, 3) := by decide +kernel
theorem d_Law_law_295 : decode b_Law_law 295 = .ok (.land, 1) := by decide +kernel
theorem d_Law_law_296 : decode b_Law_law 296 = .ok (.lor, 1) := by decide +kernel
theorem d_Law_law_297 : decode b_Law_law 297 = .ok (.aload_n 0, 1) := by decide +kernel
theorem d_Law_law_298 : decode b_Law_law 298 = .ok (.iload 4, 2) := by decide +kernel
theorem d_Law_law_300 : decode b_Law_law 300 = .ok (.iconst 4, 1) := by decide +kernel
theorem d_Law_law_301 : decode b_Law_law 301 = .ok (.iadd, 1) := by decide +kernel
theorem d_Law_law_302 : decode b_Law_law 302 = .ok (.iaload, 1) := by decide +kernel
theorem d_Law_law_303 : decode b_Law_law 303 = .ok (.i2l, 1) := by decide +kernel
theorem d_Law_law_304 : decode b_Law_law 304 = .ok (.bipush 32, 2) := by decide +kernel
theorem d_Law_law_306 : decode b_Law_law 306 = .ok (.lshl, 1) := by decide +kernel
theorem d_Law_law_307 : decode b_Law_law 307 = .ok (.aload_n 0, 1) := by decide +kernel
theorem d_Law_law_308 : decode b_Law_law 308 = .ok (.iload 4, 2) := by decide +kernel
theorem d_Law_law_310 : decode b_Law_law 310 = .ok (.iconst 5, 1) := by decide +kernel
theorem d_Law_law_311 : decode b_Law_law 311 = .ok (.iadd, 1) := by decide +kernel
theorem d_Law_law_312 : decode b_Law_law 312 = .ok (.iaload, 1) := by decide +kernel
theorem d_Law_law_313 : decode b_Law_law 313 = .ok (.i2l, 1) := by decide +kernel
theorem d_Law_law_314 : decode b_Law_law 314 = .ok (.ldc2_w 19, 3) := by decide +kernel
theorem d_Law_law_317 : decode b_Law_law 317 = .ok (.land, 1) := by decide +kernel
theorem d_Law_law_318 : decode b_Law_law 318 = .ok (.lor, 1) := by decide +kernel
theorem d_Law_law_319 : decode b_Law_law 319 = .ok (.invokevirtual 30, 3) := by decide +kernel
theorem d_Law_law_322 : decode b_Law_law 322 = .ok (.pop, 1) := by decide +kernel
theorem d_Law_law_323 : decode b_Law_law 323 = .ok (.goto 681, 3) := by decide +kernel
theorem d_Law_law_326 : decode b_Law_law 326 = .ok (.aload_n 1, 1) := by decide +kernel
theorem d_Law_law_327 : decode b_Law_law 327 = .ok (.invokevirtual 31, 3) := by decide +kernel
theorem d_Law_law_330 : decode b_Law_law 330 = .ok (.pop, 1) := by decide +kernel
theorem d_Law_law_331 : decode b_Law_law 331 = .ok (.aload_n 2, 1) := by decide +kernel
theorem d_Law_law_332 : decode b_Law_law 332 = .ok (.invokevirtual 35, 3) := by decide +kernel
theorem d_Law_law_335 : decode b_Law_law 335 = .ok (.pop, 1) := by decide +kernel
theorem d_Law_law_336 : decode b_Law_law 336 = .ok (.goto 668, 3) := by decide +kernel
theorem d_Law_law_339 : decode b_Law_law 339 = .ok (.aload_n 1, 1) := by decide +kernel
theorem d_Law_law_340 : decode b_Law_law 340 = .ok (.aload_n 0, 1) := by decide +kernel
theorem d_Law_law_341 : decode b_Law_law 341 = .ok (.iload 4, 2) := by decide +kernel
theorem d_Law_law_343 : decode b_Law_law 343 = .ok (.iconst 1, 1) := by decide +kernel
theorem d_Law_law_344 : decode b_Law_law 344 = .ok (.iadd, 1) := by decide +kernel
theorem d_Law_law_345 : decode b_Law_law 345 = .ok (.iaload, 1) := by decide +kernel
theorem d_Law_law_346 : decode b_Law_law 346 = .ok (.ifCond .eq 7, 3) := by decide +kernel
theorem d_Law_law_349 : decode b_Law_law 349 = .ok (.iconst 1, 1) := by decide +kernel
theorem d_Law_law_350 : decode b_Law_law 350 = .ok (.goto 4, 3) := by decide +kernel
theorem d_Law_law_353 : decode b_Law_law 353 = .ok (.iconst 0, 1) := by decide +kernel
theorem d_Law_law_354 : decode b_Law_law 354 = .ok (.invokevirtual 36, 3) := by decide +kernel
theorem d_Law_law_357 : decode b_Law_law 357 = .ok (.pop, 1) := by decide +kernel
theorem d_Law_law_358 : decode b_Law_law 358 = .ok (.aload_n 2, 1) := by decide +kernel
theorem d_Law_law_359 : decode b_Law_law 359 = .ok (.aload_n 0, 1) := by decide +kernel
theorem d_Law_law_360 : decode b_Law_law 360 = .ok (.iload 4, 2) := by decide +kernel
theorem d_Law_law_362 : decode b_Law_law 362 = .ok (.iconst 1, 1) := by decide +kernel
theorem d_Law_law_363 : decode b_Law_law 363 = .ok (.iadd, 1) := by decide +kernel
theorem d_Law_law_364 : decode b_Law_law 364 = .ok (.iaload, 1) := by decide +kernel
theorem d_Law_law_365 : decode b_Law_law 365 = .ok (.ifCond .eq 7, 3) := by decide +kernel
theorem d_Law_law_368 : decode b_Law_law 368 = .ok (.iconst 1, 1) := by decide +kernel
theorem d_Law_law_369 : decode b_Law_law 369 = .ok (.goto 4, 3) := by decide +kernel
theorem d_Law_law_372 : decode b_Law_law 372 = .ok (.iconst 0, 1) := by decide +kernel
theorem d_Law_law_373 : decode b_Law_law 373 = .ok (.invokevirtual 40, 3) := by decide +kernel
theorem d_Law_law_376 : decode b_Law_law 376 = .ok (.pop, 1) := by decide +kernel
theorem d_Law_law_377 : decode b_Law_law 377 = .ok (.goto 627, 3) := by decide +kernel
theorem d_Law_law_380 : decode b_Law_law 380 = .ok (.aload_n 1, 1) := by decide +kernel
theorem d_Law_law_381 : decode b_Law_law 381 = .ok (.aload_n 0, 1) := by decide +kernel
theorem d_Law_law_382 : decode b_Law_law 382 = .ok (.iload 4, 2) := by decide +kernel
theorem d_Law_law_384 : decode b_Law_law 384 = .ok (.iconst 1, 1) := by decide +kernel
theorem d_Law_law_385 : decode b_Law_law 385 = .ok (.iadd, 1) := by decide +kernel
theorem d_Law_law_386 : decode b_Law_law 386 = .ok (.iaload, 1) := by decide +kernel
theorem d_Law_law_387 : decode b_Law_law 387 = .ok (.i2l, 1) := by decide +kernel
theorem d_Law_law_388 : decode b_Law_law 388 = .ok (.bipush 32, 2) := by decide +kernel
theorem d_Law_law_390 : decode b_Law_law 390 = .ok (.lshl, 1) := by decide +kernel
theorem d_Law_law_391 : decode b_Law_law 391 = .ok (.aload_n 0, 1) := by decide +kernel
theorem d_Law_law_392 : decode b_Law_law 392 = .ok (.iload 4, 2) := by decide +kernel
theorem d_Law_law_394 : decode b_Law_law 394 = .ok (.iconst 2, 1) := by decide +kernel
theorem d_Law_law_395 : decode b_Law_law 395 = .ok (.iadd, 1) := by decide +kernel
theorem d_Law_law_396 : decode b_Law_law 396 = .ok (.iaload, 1) := by decide +kernel
theorem d_Law_law_397 : decode b_Law_law 397 = .ok (.i2l, 1) := by decide +kernel
theorem d_Law_law_398 : decode b_Law_law 398 = .ok (.ldc2_w 19, 3) := by decide +kernel
theorem d_Law_law_401 : decode b_Law_law 401 = .ok (.land, 1) := by decide +kernel
theorem d_Law_law_402 : decode b_Law_law 402 = .ok (.lor, 1) := by decide +kernel
theorem d_Law_law_403 : decode b_Law_law 403 = .ok (.invokevirtual 41, 3) := by decide +kernel
theorem d_Law_law_406 : decode b_Law_law 406 = .ok (.pop, 1) := by decide +kernel
theorem d_Law_law_407 : decode b_Law_law 407 = .ok (.aload_n 2, 1) := by decide +kernel
theorem d_Law_law_408 : decode b_Law_law 408 = .ok (.aload_n 0, 1) := by decide +kernel
theorem d_Law_law_409 : decode b_Law_law 409 = .ok (.iload 4, 2) := by decide +kernel
theorem d_Law_law_411 : decode b_Law_law 411 = .ok (.iconst 1, 1) := by decide +kernel
theorem d_Law_law_412 : decode b_Law_law 412 = .ok (.iadd, 1) := by decide +kernel
theorem d_Law_law_413 : decode b_Law_law 413 = .ok (.iaload, 1) := by decide +kernel
theorem d_Law_law_414 : decode b_Law_law 414 = .ok (.i2l, 1) := by decide +kernel
theorem d_Law_law_415 : decode b_Law_law 415 = .ok (.bipush 32, 2) := by decide +kernel
theorem d_Law_law_417 : decode b_Law_law 417 = .ok (.lshl, 1) := by decide +kernel
theorem d_Law_law_418 : decode b_Law_law 418 = .ok (.aload_n 0, 1) := by decide +kernel
theorem d_Law_law_419 : decode b_Law_law 419 = .ok (.iload 4, 2) := by decide +kernel
theorem d_Law_law_421 : decode b_Law_law 421 = .ok (.iconst 2, 1) := by decide +kernel
theorem d_Law_law_422 : decode b_Law_law 422 = .ok (.iadd, 1) := by decide +kernel
theorem d_Law_law_423 : decode b_Law_law 423 = .ok (.iaload, 1) := by decide +kernel
theorem d_Law_law_424 : decode b_Law_law 424 = .ok (.i2l, 1) := by decide +kernel
theorem d_Law_law_425 : decode b_Law_law 425 = .ok (.ldc2_w 19, 3) := by decide +kernel
theorem d_Law_law_428 : decode b_Law_law 428 = .ok (.land, 1) := by decide +kernel
theorem d_Law_law_429 : decode b_Law_law 429 = .ok (.lor, 1) := by decide +kernel
theorem d_Law_law_430 : decode b_Law_law 430 = .ok (.invokevirtual 45, 3) := by decide +kernel
theorem d_Law_law_433 : decode b_Law_law 433 = .ok (.pop, 1) := by decide +kernel
theorem d_Law_law_434 : decode b_Law_law 434 = .ok (.goto 570, 3) := by decide +kernel
theorem d_Law_law_437 : decode b_Law_law 437 = .ok (.aload_n 1, 1) := by decide +kernel
theorem d_Law_law_438 : decode b_Law_law 438 = .ok (.aload_n 0, 1) := by decide +kernel
theorem d_Law_law_439 : decode b_Law_law 439 = .ok (.iload 4, 2) := by decide +kernel
theorem d_Law_law_441 : decode b_Law_law 441 = .ok (.iconst 1, 1) := by decide +kernel
theorem d_Law_law_442 : decode b_Law_law 442 = .ok (.iadd, 1) := by decide +kernel
theorem d_Law_law_443 : decode b_Law_law 443 = .ok (.iaload, 1) := by decide +kernel
theorem d_Law_law_444 : decode b_Law_law 444 = .ok (.i2l, 1) := by decide +kernel
theorem d_Law_law_445 : decode b_Law_law 445 = .ok (.bipush 32, 2) := by decide +kernel
theorem d_Law_law_447 : decode b_Law_law 447 = .ok (.lshl, 1) := by decide +kernel
theorem d_Law_law_448 : decode b_Law_law 448 = .ok (.aload_n 0, 1) := by decide +kernel
theorem d_Law_law_449 : decode b_Law_law 449 = .ok (.iload 4, 2) := by decide +kernel
theorem d_Law_law_451 : decode b_Law_law 451 = .ok (.iconst 2, 1) := by decide +kernel
theorem d_Law_law_452 : decode b_Law_law 452 = .ok (.iadd, 1) := by decide +kernel
theorem d_Law_law_453 : decode b_Law_law 453 = .ok (.iaload, 1) := by decide +kernel
theorem d_Law_law_454 : decode b_Law_law 454 = .ok (.i2l, 1) := by decide +kernel
theorem d_Law_law_455 : decode b_Law_law 455 = .ok (.ldc2_w 19, 3) := by decide +kernel
theorem d_Law_law_458 : decode b_Law_law 458 = .ok (.land, 1) := by decide +kernel
theorem d_Law_law_459 : decode b_Law_law 459 = .ok (.lor, 1) := by decide +kernel
theorem d_Law_law_460 : decode b_Law_law 460 = .ok (.aload_n 0, 1) := by decide +kernel
theorem d_Law_law_461 : decode b_Law_law 461 = .ok (.iload 4, 2) := by decide +kernel
theorem d_Law_law_463 : decode b_Law_law 463 = .ok (.iconst 3, 1) := by decide +kernel
theorem d_Law_law_464 : decode b_Law_law 464 = .ok (.iadd, 1) := by decide +kernel
theorem d_Law_law_465 : decode b_Law_law 465 = .ok (.iaload, 1) := by decide +kernel
theorem d_Law_law_466 : decode b_Law_law 466 = .ok (.i2l, 1) := by decide +kernel
theorem d_Law_law_467 : decode b_Law_law 467 = .ok (.bipush 32, 2) := by decide +kernel
theorem d_Law_law_469 : decode b_Law_law 469 = .ok (.lshl, 1) := by decide +kernel
theorem d_Law_law_470 : decode b_Law_law 470 = .ok (.aload_n 0, 1) := by decide +kernel
theorem d_Law_law_471 : decode b_Law_law 471 = .ok (.iload 4, 2) := by decide +kernel
theorem d_Law_law_473 : decode b_Law_law 473 = .ok (.iconst 4, 1) := by decide +kernel
theorem d_Law_law_474 : decode b_Law_law 474 = .ok (.iadd, 1) := by decide +kernel
theorem d_Law_law_475 : decode b_Law_law 475 = .ok (.iaload, 1) := by decide +kernel
theorem d_Law_law_476 : decode b_Law_law 476 = .ok (.i2l, 1) := by decide +kernel
theorem d_Law_law_477 : decode b_Law_law 477 = .ok (.ldc2_w 19, 3) := by decide +kernel
theorem d_Law_law_480 : decode b_Law_law 480 = .ok (.land, 1) := by decide +kernel
theorem d_Law_law_481 : decode b_Law_law 481 = .ok (.lor, 1) := by decide +kernel
theorem d_Law_law_482 : decode b_Law_law 482 = .ok (.invokevirtual 46, 3) := by decide +kernel
theorem d_Law_law_485 : decode b_Law_law 485 = .ok (.pop, 1) := by decide +kernel
theorem d_Law_law_486 : decode b_Law_law 486 = .ok (.aload_n 2, 1) := by decide +kernel
theorem d_Law_law_487 : decode b_Law_law 487 = .ok (.aload_n 0, 1) := by decide +kernel
theorem d_Law_law_488 : decode b_Law_law 488 = .ok (.iload 4, 2) := by decide +kernel
theorem d_Law_law_490 : decode b_Law_law 490 = .ok (.iconst 1, 1) := by decide +kernel
theorem d_Law_law_491 : decode b_Law_law 491 = .ok (.iadd, 1) := by decide +kernel
theorem d_Law_law_492 : decode b_Law_law 492 = .ok (.iaload, 1) := by decide +kernel
