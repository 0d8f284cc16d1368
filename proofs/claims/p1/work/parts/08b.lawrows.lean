theorem dL_0 : decode code 0 = .ok (.new 7, 3) := by decide +kernel
theorem dL_3 : decode code 3 = .ok (.dup, 1) := by decide +kernel
theorem dL_4 : decode code 4 = .ok (.invokespecial 9, 3) := by decide +kernel
theorem dL_7 : decode code 7 = .ok (.astore_n 1, 1) := by decide +kernel
theorem dL_8 : decode code 8 = .ok (.new 10, 3) := by decide +kernel
theorem dL_11 : decode code 11 = .ok (.dup, 1) := by decide +kernel
theorem dL_12 : decode code 12 = .ok (.invokespecial 12, 3) := by decide +kernel
theorem dL_15 : decode code 15 = .ok (.astore_n 2, 1) := by decide +kernel
theorem dL_16 : decode code 16 = .ok (.iconst 0, 1) := by decide +kernel
theorem dL_17 : decode code 17 = .ok (.istore_n 3, 1) := by decide +kernel
theorem dL_18 : decode code 18 = .ok (.iload_n 3, 1) := by decide +kernel
theorem dL_19 : decode code 19 = .ok (.aload_n 0, 1) := by decide +kernel
theorem dL_20 : decode code 20 = .ok (.arraylength, 1) := by decide +kernel
theorem dL_21 : decode code 21 = .ok (.iconst 5, 1) := by decide +kernel
theorem dL_22 : decode code 22 = .ok (.isub, 1) := by decide +kernel
theorem dL_23 : decode code 23 = .ok (.if_icmp .gt 1728, 3) := by decide +kernel
theorem dL_26 : decode code 26 = .ok (.aload_n 0, 1) := by decide +kernel
theorem dL_27 : decode code 27 = .ok (.iload_n 3, 1) := by decide +kernel
theorem dL_28 : decode code 28 = .ok (.iaload, 1) := by decide +kernel
theorem dL_29 : decode code 29 = .ok (.bipush 63, 2) := by decide +kernel
theorem dL_31 : decode code 31 = .ok (.iand, 1) := by decide +kernel
theorem dL_32 : decode code 32 = .ok (.tableswitch 1713 0 50 #[220, 273, 306, 349, 382, 415, 458, 491, 514, 527, 550, 613, 626, 639, 662, 685, 708, 731, 754, 777, 810, 833, 856, 889, 912, 945, 978, 1001, 1024, 1077, 1090, 1113, 1126, 1149, 1162, 1195, 1218, 1251, 1294, 1307, 1350, 1393, 1436, 1479, 1522, 1565, 1598, 1641, 1664, 1687, 1700], 220) := by decide +kernel
theorem dL_252 : decode code 252 = .ok (.aload_n 1, 1) := by decide +kernel
theorem dL_253 : decode code 253 = .ok (.aload_n 0, 1) := by decide +kernel
theorem dL_254 : decode code 254 = .ok (.iload_n 3, 1) := by decide +kernel
theorem dL_255 : decode code 255 = .ok (.iconst 1, 1) := by decide +kernel
theorem dL_256 : decode code 256 = .ok (.iadd, 1) := by decide +kernel
theorem dL_257 : decode code 257 = .ok (.iaload, 1) := by decide +kernel
theorem dL_258 : decode code 258 = .ok (.aload_n 0, 1) := by decide +kernel
theorem dL_259 : decode code 259 = .ok (.iload_n 3, 1) := by decide +kernel
theorem dL_260 : decode code 260 = .ok (.iconst 2, 1) := by decide +kernel
theorem dL_261 : decode code 261 = .ok (.iadd, 1) := by decide +kernel
theorem dL_262 : decode code 262 = .ok (.iaload, 1) := by decide +kernel
theorem dL_263 : decode code 263 = .ok (.aload_n 0, 1) := by decide +kernel
theorem dL_264 : decode code 264 = .ok (.iload_n 3, 1) := by decide +kernel
theorem dL_265 : decode code 265 = .ok (.iconst 3, 1) := by decide +kernel
theorem dL_266 : decode code 266 = .ok (.iadd, 1) := by decide +kernel
theorem dL_267 : decode code 267 = .ok (.iaload, 1) := by decide +kernel
theorem dL_268 : decode code 268 = .ok (.aload_n 0, 1) := by decide +kernel
theorem dL_269 : decode code 269 = .ok (.iload_n 3, 1) := by decide +kernel
theorem dL_270 : decode code 270 = .ok (.iconst 4, 1) := by decide +kernel
theorem dL_271 : decode code 271 = .ok (.iadd, 1) := by decide +kernel
theorem dL_272 : decode code 272 = .ok (.iaload, 1) := by decide +kernel
theorem dL_273 : decode code 273 = .ok (.invokevirtual 13, 3) := by decide +kernel
theorem dL_276 : decode code 276 = .ok (.aload_n 2, 1) := by decide +kernel
theorem dL_277 : decode code 277 = .ok (.aload_n 0, 1) := by decide +kernel
theorem dL_278 : decode code 278 = .ok (.iload_n 3, 1) := by decide +kernel
theorem dL_279 : decode code 279 = .ok (.iconst 1, 1) := by decide +kernel
theorem dL_280 : decode code 280 = .ok (.iadd, 1) := by decide +kernel
theorem dL_281 : decode code 281 = .ok (.iaload, 1) := by decide +kernel
theorem dL_282 : decode code 282 = .ok (.aload_n 0, 1) := by decide +kernel
theorem dL_283 : decode code 283 = .ok (.iload_n 3, 1) := by decide +kernel
theorem dL_284 : decode code 284 = .ok (.iconst 2, 1) := by decide +kernel
theorem dL_285 : decode code 285 = .ok (.iadd, 1) := by decide +kernel
theorem dL_286 : decode code 286 = .ok (.iaload, 1) := by decide +kernel
theorem dL_287 : decode code 287 = .ok (.aload_n 0, 1) := by decide +kernel
theorem dL_288 : decode code 288 = .ok (.iload_n 3, 1) := by decide +kernel
theorem dL_289 : decode code 289 = .ok (.iconst 3, 1) := by decide +kernel
theorem dL_290 : decode code 290 = .ok (.iadd, 1) := by decide +kernel
theorem dL_291 : decode code 291 = .ok (.iaload, 1) := by decide +kernel
theorem dL_292 : decode code 292 = .ok (.aload_n 0, 1) := by decide +kernel
theorem dL_293 : decode code 293 = .ok (.iload_n 3, 1) := by decide +kernel
theorem dL_294 : decode code 294 = .ok (.iconst 4, 1) := by decide +kernel
theorem dL_295 : decode code 295 = .ok (.iadd, 1) := by decide +kernel
theorem dL_296 : decode code 296 = .ok (.iaload, 1) := by decide +kernel
theorem dL_297 : decode code 297 = .ok (.invokevirtual 17, 3) := by decide +kernel
theorem dL_300 : decode code 300 = .ok (.if_icmp .eq 1445, 3) := by decide +kernel
theorem dL_303 : decode code 303 = .ok (.iconst 0, 1) := by decide +kernel
theorem dL_304 : decode code 304 = .ok (.ireturn, 1) := by decide +kernel
theorem dL_305 : decode code 305 = .ok (.aload_n 1, 1) := by decide +kernel
theorem dL_306 : decode code 306 = .ok (.aload_n 0, 1) := by decide +kernel
theorem dL_307 : decode code 307 = .ok (.iload_n 3, 1) := by decide +kernel
theorem dL_308 : decode code 308 = .ok (.iconst 1, 1) := by decide +kernel
theorem dL_309 : decode code 309 = .ok (.iadd, 1) := by decide +kernel
theorem dL_310 : decode code 310 = .ok (.iaload, 1) := by decide +kernel
theorem dL_311 : decode code 311 = .ok (.aload_n 0, 1) := by decide +kernel
theorem dL_312 : decode code 312 = .ok (.iload_n 3, 1) := by decide +kernel
theorem dL_313 : decode code 313 = .ok (.iconst 2, 1) := by decide +kernel
theorem dL_314 : decode code 314 = .ok (.iadd, 1) := by decide +kernel
theorem dL_315 : decode code 315 = .ok (.iaload, 1) := by decide +kernel
theorem dL_316 : decode code 316 = .ok (.invokevirtual 18, 3) := by decide +kernel
theorem dL_319 : decode code 319 = .ok (.aload_n 2, 1) := by decide +kernel
theorem dL_320 : decode code 320 = .ok (.aload_n 0, 1) := by decide +kernel
theorem dL_321 : decode code 321 = .ok (.iload_n 3, 1) := by decide +kernel
theorem dL_322 : decode code 322 = .ok (.iconst 1, 1) := by decide +kernel
theorem dL_323 : decode code 323 = .ok (.iadd, 1) := by decide +kernel
theorem dL_324 : decode code 324 = .ok (.iaload, 1) := by decide +kernel
theorem dL_325 : decode code 325 = .ok (.aload_n 0, 1) := by decide +kernel
theorem dL_326 : decode code 326 = .ok (.iload_n 3, 1) := by decide +kernel
theorem dL_327 : decode code 327 = .ok (.iconst 2, 1) := by decide +kernel
theorem dL_328 : decode code 328 = .ok (.iadd, 1) := by decide +kernel
theorem dL_329 : decode code 329 = .ok (.iaload, 1) := by decide +kernel
theorem dL_330 : decode code 330 = .ok (.invokevirtual 22, 3) := by decide +kernel
theorem dL_333 : decode code 333 = .ok (.if_icmp .eq 1412, 3) := by decide +kernel
theorem dL_336 : decode code 336 = .ok (.iconst 0, 1) := by decide +kernel
theorem dL_337 : decode code 337 = .ok (.ireturn, 1) := by decide +kernel
theorem dL_338 : decode code 338 = .ok (.aload_n 1, 1) := by decide +kernel
theorem dL_339 : decode code 339 = .ok (.aload_n 0, 1) := by decide +kernel
theorem dL_340 : decode code 340 = .ok (.iload_n 3, 1) := by decide +kernel
theorem dL_341 : decode code 341 = .ok (.iconst 1, 1) := by decide +kernel
theorem dL_342 : decode code 342 = .ok (.iadd, 1) := by decide +kernel
theorem dL_343 : decode code 343 = .ok (.iaload, 1) := by decide +kernel
theorem dL_344 : decode code 344 = .ok (.aload_n 0, 1) := by decide +kernel
theorem dL_345 : decode code 345 = .ok (.iload_n 3, 1) := by decide +kernel
theorem dL_346 : decode code 346 = .ok (.iconst 2, 1) := by decide +kernel
theorem dL_347 : decode code 347 = .ok (.iadd, 1) := by decide +kernel
theorem dL_348 : decode code 348 = .ok (.iaload, 1) := by decide +kernel
theorem dL_349 : decode code 349 = .ok (.aload_n 0, 1) := by decide +kernel
theorem dL_350 : decode code 350 = .ok (.iload_n 3, 1) := by decide +kernel
theorem dL_351 : decode code 351 = .ok (.iconst 3, 1) := by decide +kernel
theorem dL_352 : decode code 352 = .ok (.iadd, 1) := by decide +kernel
theorem dL_353 : decode code 353 = .ok (.iaload, 1) := by decide +kernel
theorem dL_354 : decode code 354 = .ok (.invokevirtual 23, 3) := by decide +kernel
theorem dL_357 : decode code 357 = .ok (.aload_n 2, 1) := by decide +kernel
theorem dL_358 : decode code 358 = .ok (.aload_n 0, 1) := by decide +kernel
theorem dL_359 : decode code 359 = .ok (.iload_n 3, 1) := by decide +kernel
theorem dL_360 : decode code 360 = .ok (.iconst 1, 1) := by decide +kernel
theorem dL_361 : decode code 361 = .ok (.iadd, 1) := by decide +kernel
theorem dL_362 : decode code 362 = .ok (.iaload, 1) := by decide +kernel
theorem dL_363 : decode code 363 = .ok (.aload_n 0, 1) := by decide +kernel
theorem dL_364 : decode code 364 = .ok (.iload_n 3, 1) := by decide +kernel
theorem dL_365 : decode code 365 = .ok (.iconst 2, 1) := by decide +kernel
theorem dL_366 : decode code 366 = .ok (.iadd, 1) := by decide +kernel
theorem dL_367 : decode code 367 = .ok (.iaload, 1) := by decide +kernel
theorem dL_368 : decode code 368 = .ok (.aload_n 0, 1) := by decide +kernel
theorem dL_369 : decode code 369 = .ok (.iload_n 3, 1) := by decide +kernel
theorem dL_370 : decode code 370 = .ok (.iconst 3, 1) := by decide +kernel
theorem dL_371 : decode code 371 = .ok (.iadd, 1) := by decide +kernel
theorem dL_372 : decode code 372 = .ok (.iaload, 1) := by decide +kernel
theorem dL_373 : decode code 373 = .ok (.invokevirtual 27, 3) := by decide +kernel
theorem dL_376 : decode code 376 = .ok (.if_icmp .eq 1369, 3) := by decide +kernel
theorem dL_379 : decode code 379 = .ok (.iconst 0, 1) := by decide +kernel
theorem dL_380 : decode code 380 = .ok (.ireturn, 1) := by decide +kernel
theorem dL_381 : decode code 381 = .ok (.aload_n 1, 1) := by decide +kernel
theorem dL_382 : decode code 382 = .ok (.aload_n 0, 1) := by decide +kernel
theorem dL_383 : decode code 383 = .ok (.iload_n 3, 1) := by decide +kernel
theorem dL_384 : decode code 384 = .ok (.iconst 1, 1) := by decide +kernel
theorem dL_385 : decode code 385 = .ok (.iadd, 1) := by decide +kernel
theorem dL_386 : decode code 386 = .ok (.iaload, 1) := by decide +kernel
theorem dL_387 : decode code 387 = .ok (.aload_n 0, 1) := by decide +kernel
theorem dL_388 : decode code 388 = .ok (.iload_n 3, 1) := by decide +kernel
theorem dL_389 : decode code 389 = .ok (.iconst 2, 1) := by decide +kernel
theorem dL_390 : decode code 390 = .ok (.iadd, 1) := by decide +kernel
theorem dL_391 : decode code 391 = .ok (.iaload, 1) := by decide +kernel
theorem dL_392 : decode code 392 = .ok (.invokevirtual 28, 3) := by decide +kernel
theorem dL_395 : decode code 395 = .ok (.aload_n 2, 1) := by decide +kernel
theorem dL_396 : decode code 396 = .ok (.aload_n 0, 1) := by decide +kernel
theorem dL_397 : decode code 397 = .ok (.iload_n 3, 1) := by decide +kernel
theorem dL_398 : decode code 398 = .ok (.iconst 1, 1) := by decide +kernel
theorem dL_399 : decode code 399 = .ok (.iadd, 1) := by decide +kernel
theorem dL_400 : decode code 400 = .ok (.iaload, 1) := by decide +kernel
theorem dL_401 : decode code 401 = .ok (.aload_n 0, 1) := by decide +kernel
theorem dL_402 : decode code 402 = .ok (.iload_n 3, 1) := by decide +kernel
theorem dL_403 : decode code 403 = .ok (.iconst 2, 1) := by decide +kernel
theorem dL_404 : decode code 404 = .ok (.iadd, 1) := by decide +kernel
theorem dL_405 : decode code 405 = .ok (.iaload, 1) := by decide +kernel
theorem dL_406 : decode code 406 = .ok (.invokevirtual 31, 3) := by decide +kernel
theorem dL_409 : decode code 409 = .ok (.if_icmp .eq 1336, 3) := by decide +kernel
theorem dL_412 : decode code 412 = .ok (.iconst 0, 1) := by decide +kernel
theorem dL_413 : decode code 413 = .ok (.ireturn, 1) := by decide +kernel
theorem dL_414 : decode code 414 = .ok (.aload_n 1, 1) := by decide +kernel
theorem dL_415 : decode code 415 = .ok (.aload_n 0, 1) := by decide +kernel
theorem dL_416 : decode code 416 = .ok (.iload_n 3, 1) := by decide +kernel
theorem dL_417 : decode code 417 = .ok (.iconst 1, 1) := by decide +kernel
theorem dL_418 : decode code 418 = .ok (.iadd, 1) := by decide +kernel
theorem dL_419 : decode code 419 = .ok (.iaload, 1) := by decide +kernel
theorem dL_420 : decode code 420 = .ok (.aload_n 0, 1) := by decide +kernel
theorem dL_421 : decode code 421 = .ok (.iload_n 3, 1) := by decide +kernel
theorem dL_422 : decode code 422 = .ok (.iconst 2, 1) := by decide +kernel
theorem dL_423 : decode code 423 = .ok (.iadd, 1) := by decide +kernel
theorem dL_424 : decode code 424 = .ok (.iaload, 1) := by decide +kernel
theorem dL_425 : decode code 425 = .ok (.invokevirtual 32, 3) := by decide +kernel
theorem dL_428 : decode code 428 = .ok (.aload_n 2, 1) := by decide +kernel
theorem dL_429 : decode code 429 = .ok (.aload_n 0, 1) := by decide +kernel
theorem dL_430 : decode code 430 = .ok (.iload_n 3, 1) := by decide +kernel
theorem dL_431 : decode code 431 = .ok (.iconst 1, 1) := by decide +kernel
theorem dL_432 : decode code 432 = .ok (.iadd, 1) := by decide +kernel
theorem dL_433 : decode code 433 = .ok (.iaload, 1) := by decide +kernel
theorem dL_434 : decode code 434 = .ok (.aload_n 0, 1) := by decide +kernel
theorem dL_435 : decode code 435 = .ok (.iload_n 3, 1) := by decide +kernel
theorem dL_436 : decode code 436 = .ok (.iconst 2, 1) := by decide +kernel
theorem dL_437 : decode code 437 = .ok (.iadd, 1) := by decide +kernel
theorem dL_438 : decode code 438 = .ok (.iaload, 1) := by decide +kernel
theorem dL_439 : decode code 439 = .ok (.invokevirtual 35, 3) := by decide +kernel
theorem dL_442 : decode code 442 = .ok (.if_icmp .eq 1303, 3) := by decide +kernel
theorem dL_445 : decode code 445 = .ok (.iconst 0, 1) := by decide +kernel
theorem dL_446 : decode code 446 = .ok (.ireturn, 1) := by decide +kernel
theorem dL_447 : decode code 447 = .ok (.aload_n 1, 1) := by decide +kernel
theorem dL_448 : decode code 448 = .ok (.aload_n 0, 1) := by decide +kernel
theorem dL_449 : decode code 449 = .ok (.iload_n 3, 1) := by decide +kernel
theorem dL_450 : decode code 450 = .ok (.iconst 1, 1) := by decide +kernel
theorem dL_451 : decode code 451 = .ok (.iadd, 1) := by decide +kernel
theorem dL_452 : decode code 452 = .ok (.iaload, 1) := by decide +kernel
theorem dL_453 : decode code 453 = .ok (.aload_n 0, 1) := by decide +kernel
theorem dL_454 : decode code 454 = .ok (.iload_n 3, 1) := by decide +kernel
theorem dL_455 : decode code 455 = .ok (.iconst 2, 1) := by decide +kernel
theorem dL_456 : decode code 456 = .ok (.iadd, 1) := by decide +kernel
theorem dL_457 : decode code 457 = .ok (.iaload, 1) := by decide +kernel
theorem dL_458 : decode code 458 = .ok (.aload_n 0, 1) := by decide +kernel
theorem dL_459 : decode code 459 = .ok (.iload_n 3, 1) := by decide +kernel
theorem dL_460 : decode code 460 = .ok (.iconst 3, 1) := by decide +kernel
theorem dL_461 : decode code 461 = .ok (.iadd, 1) := by decide +kernel
theorem dL_462 : decode code 462 = .ok (.iaload, 1) := by decide +kernel
theorem dL_463 : decode code 463 = .ok (.invokevirtual 36, 3) := by decide +kernel
theorem dL_466 : decode code 466 = .ok (.aload_n 2, 1) := by decide +kernel
theorem dL_467 : decode code 467 = .ok (.aload_n 0, 1) := by decide +kernel
theorem dL_468 : decode code 468 = .ok (.iload_n 3, 1) := by decide +kernel
theorem dL_469 : decode code 469 = .ok (.iconst 1, 1) := by decide +kernel
theorem dL_470 : decode code 470 = .ok (.iadd, 1) := by decide +kernel
theorem dL_471 : decode code 471 = .ok (.iaload, 1) := by decide +kernel
theorem dL_472 : decode code 472 = .ok (.aload_n 0, 1) := by decide +kernel
theorem dL_473 : decode code 473 = .ok (.iload_n 3, 1) := by decide +kernel
theorem dL_474 : decode code 474 = .ok (.iconst 2, 1) := by decide +kernel
theorem dL_475 : decode code 475 = .ok (.iadd, 1) := by decide +kernel
theorem dL_476 : decode code 476 = .ok (.iaload, 1) := by decide +kernel
theorem dL_477 : decode code 477 = .ok (.aload_n 0, 1) := by decide +kernel
theorem dL_478 : decode code 478 = .ok (.iload_n 3, 1) := by decide +kernel
theorem dL_479 : decode code 479 = .ok (.iconst 3, 1) := by decide +kernel
theorem dL_480 : decode code 480 = .ok (.iadd, 1) := by decide +kernel
theorem dL_481 : decode code 481 = .ok (.iaload, 1) := by decide +kernel
theorem dL_482 : decode code 482 = .ok (.invokevirtual 39, 3) := by decide +kernel
theorem dL_485 : decode code 485 = .ok (.if_icmp .eq 1260, 3) := by decide +kernel
theorem dL_488 : decode code 488 = .ok (.iconst 0, 1) := by decide +kernel
theorem dL_489 : decode code 489 = .ok (.ireturn, 1) := by decide +kernel
theorem dL_490 : decode code 490 = .ok (.aload_n 1, 1) := by decide +kernel
theorem dL_491 : decode code 491 = .ok (.aload_n 0, 1) := by decide +kernel
theorem dL_492 : decode code 492 = .ok (.iload_n 3, 1) := by decide +kernel
theorem dL_493 : decode code 493 = .ok (.iconst 1, 1) := by decide +kernel
theorem dL_494 : decode code 494 = .ok (.iadd, 1) := by decide +kernel
theorem dL_495 : decode code 495 = .ok (.iaload, 1) := by decide +kernel
theorem dL_496 : decode code 496 = .ok (.aload_n 0, 1) := by decide +kernel
theorem dL_497 : decode code 497 = .ok (.iload_n 3, 1) := by decide +kernel
theorem dL_498 : decode code 498 = .ok (.iconst 2, 1) := by decide +kernel
theorem dL_499 : decode code 499 = .ok (.iadd, 1) := by decide +kernel
theorem dL_500 : decode code 500 = .ok (.iaload, 1) := by decide +kernel
theorem dL_501 : decode code 501 = .ok (.invokevirtual 40, 3) := by decide +kernel
theorem dL_504 : decode code 504 = .ok (.aload_n 2, 1) := by decide +kernel
theorem dL_505 : decode code 505 = .ok (.aload_n 0, 1) := by decide +kernel
theorem dL_506 : decode code 506 = .ok (.iload_n 3, 1) := by decide +kernel
theorem dL_507 : decode code 507 = .ok (.iconst 1, 1) := by decide +kernel
theorem dL_508 : decode code 508 = .ok (.iadd, 1) := by decide +kernel
theorem dL_509 : decode code 509 = .ok (.iaload, 1) := by decide +kernel
theorem dL_510 : decode code 510 = .ok (.aload_n 0, 1) := by decide +kernel
theorem dL_511 : decode code 511 = .ok (.iload_n 3, 1) := by decide +kernel
theorem dL_512 : decode code 512 = .ok (.iconst 2, 1) := by decide +kernel
theorem dL_513 : decode code 513 = .ok (.iadd, 1) := by decide +kernel
theorem dL_514 : decode code 514 = .ok (.iaload, 1) := by decide +kernel
theorem dL_515 : decode code 515 = .ok (.invokevirtual 43, 3) := by decide +kernel
theorem dL_518 : decode code 518 = .ok (.if_icmp .eq 1227, 3) := by decide +kernel
theorem dL_521 : decode code 521 = .ok (.iconst 0, 1) := by decide +kernel
theorem dL_522 : decode code 522 = .ok (.ireturn, 1) := by decide +kernel
theorem dL_523 : decode code 523 = .ok (.aload_n 1, 1) := by decide +kernel
theorem dL_524 : decode code 524 = .ok (.aload_n 0, 1) := by decide +kernel
theorem dL_525 : decode code 525 = .ok (.iload_n 3, 1) := by decide +kernel
theorem dL_526 : decode code 526 = .ok (.iconst 1, 1) := by decide +kernel
theorem dL_527 : decode code 527 = .ok (.iadd, 1) := by decide +kernel
theorem dL_528 : decode code 528 = .ok (.iaload, 1) := by decide +kernel
theorem dL_529 : decode code 529 = .ok (.invokevirtual 44, 3) := by decide +kernel
theorem dL_532 : decode code 532 = .ok (.aload_n 2, 1) := by decide +kernel
theorem dL_533 : decode code 533 = .ok (.aload_n 0, 1) := by decide +kernel
theorem dL_534 : decode code 534 = .ok (.iload_n 3, 1) := by decide +kernel
theorem dL_535 : decode code 535 = .ok (.iconst 1, 1) := by decide +kernel
theorem dL_536 : decode code 536 = .ok (.iadd, 1) := by decide +kernel
theorem dL_537 : decode code 537 = .ok (.iaload, 1) := by decide +kernel
theorem dL_538 : decode code 538 = .ok (.invokevirtual 48, 3) := by decide +kernel
theorem dL_541 : decode code 541 = .ok (.if_icmp .eq 1204, 3) := by decide +kernel
theorem dL_544 : decode code 544 = .ok (.iconst 0, 1) := by decide +kernel
theorem dL_545 : decode code 545 = .ok (.ireturn, 1) := by decide +kernel
theorem dL_546 : decode code 546 = .ok (.aload_n 1, 1) := by decide +kernel
theorem dL_547 : decode code 547 = .ok (.invokevirtual 49, 3) := by decide +kernel
theorem dL_550 : decode code 550 = .ok (.aload_n 2, 1) := by decide +kernel
theorem dL_551 : decode code 551 = .ok (.invokevirtual 53, 3) := by decide +kernel
theorem dL_554 : decode code 554 = .ok (.if_icmp .eq 1191, 3) := by decide +kernel
theorem dL_557 : decode code 557 = .ok (.iconst 0, 1) := by decide +kernel
theorem dL_558 : decode code 558 = .ok (.ireturn, 1) := by decide +kernel
theorem dL_559 : decode code 559 = .ok (.aload_n 1, 1) := by decide +kernel
theorem dL_560 : decode code 560 = .ok (.aload_n 0, 1) := by decide +kernel
theorem dL_561 : decode code 561 = .ok (.iload_n 3, 1) := by decide +kernel
theorem dL_562 : decode code 562 = .ok (.iconst 1, 1) := by decide +kernel
theorem dL_563 : decode code 563 = .ok (.iadd, 1) := by decide +kernel
theorem dL_564 : decode code 564 = .ok (.iaload, 1) := by decide +kernel
theorem dL_565 : decode code 565 = .ok (.invokevirtual 54, 3) := by decide +kernel
theorem dL_568 : decode code 568 = .ok (.aload_n 2, 1) := by decide +kernel
theorem dL_569 : decode code 569 = .ok (.aload_n 0, 1) := by decide +kernel
theorem dL_570 : decode code 570 = .ok (.iload_n 3, 1) := by decide +kernel
theorem dL_571 : decode code 571 = .ok (.iconst 1, 1) := by decide +kernel
theorem dL_572 : decode code 572 = .ok (.iadd, 1) := by decide +kernel
theorem dL_573 : decode code 573 = .ok (.iaload, 1) := by decide +kernel
theorem dL_574 : decode code 574 = .ok (.invokevirtual 57, 3) := by decide +kernel
theorem dL_577 : decode code 577 = .ok (.if_icmp .eq 1168, 3) := by decide +kernel
theorem dL_580 : decode code 580 = .ok (.iconst 0, 1) := by decide +kernel
theorem dL_581 : decode code 581 = .ok (.ireturn, 1) := by decide +kernel
theorem dL_582 : decode code 582 = .ok (.aload_n 1, 1) := by decide +kernel
theorem dL_583 : decode code 583 = .ok (.aload_n 0, 1) := by decide +kernel
theorem dL_584 : decode code 584 = .ok (.iload_n 3, 1) := by decide +kernel
theorem dL_585 : decode code 585 = .ok (.iconst 1, 1) := by decide +kernel
theorem dL_586 : decode code 586 = .ok (.iadd, 1) := by decide +kernel
theorem dL_587 : decode code 587 = .ok (.iaload, 1) := by decide +kernel
theorem dL_588 : decode code 588 = .ok (.i2l, 1) := by decide +kernel
theorem dL_589 : decode code 589 = .ok (.bipush 32, 2) := by decide +kernel
theorem dL_591 : decode code 591 = .ok (.lshl, 1) := by decide +kernel
theorem dL_592 : decode code 592 = .ok (.aload_n 0, 1) := by decide +kernel
theorem dL_593 : decode code 593 = .ok (.iload_n 3, 1) := by decide +kernel
theorem dL_594 : decode code 594 = .ok (.iconst 2, 1) := by decide +kernel
theorem dL_595 : decode code 595 = .ok (.iadd, 1) := by decide +kernel
theorem dL_596 : decode code 596 = .ok (.iaload, 1) := by decide +kernel
theorem dL_597 : decode code 597 = .ok (.i2l, 1) := by decide +kernel
theorem dL_598 : decode code 598 = .ok (.ldc2_w 58, 3) := by decide +kernel
theorem dL_601 : decode code 601 = .ok (.land, 1) := by decide +kernel
theorem dL_602 : decode code 602 = .ok (.lor, 1) := by decide +kernel
theorem dL_603 : decode code 603 = .ok (.aload_n 0, 1) := by decide +kernel
theorem dL_604 : decode code 604 = .ok (.iload_n 3, 1) := by decide +kernel
theorem dL_605 : decode code 605 = .ok (.iconst 3, 1) := by decide +kernel
theorem dL_606 : decode code 606 = .ok (.iadd, 1) := by decide +kernel
theorem dL_607 : decode code 607 = .ok (.iaload, 1) := by decide +kernel
theorem dL_608 : decode code 608 = .ok (.invokevirtual 60, 3) := by decide +kernel
theorem dL_611 : decode code 611 = .ok (.aload_n 2, 1) := by decide +kernel
theorem dL_612 : decode code 612 = .ok (.aload_n 0, 1) := by decide +kernel
theorem dL_613 : decode code 613 = .ok (.iload_n 3, 1) := by decide +kernel
theorem dL_614 : decode code 614 = .ok (.iconst 1, 1) := by decide +kernel
theorem dL_615 : decode code 615 = .ok (.iadd, 1) := by decide +kernel
theorem dL_616 : decode code 616 = .ok (.iaload, 1) := by decide +kernel
theorem dL_617 : decode code 617 = .ok (.i2l, 1) := by decide +kernel
theorem dL_618 : decode code 618 = .ok (.bipush 32, 2) := by decide +kernel
theorem dL_620 : decode code 620 = .ok (.lshl, 1) := by decide +kernel
theorem dL_621 : decode code 621 = .ok (.aload_n 0, 1) := by decide +kernel
theorem dL_622 : decode code 622 = .ok (.iload_n 3, 1) := by decide +kernel
theorem dL_623 : decode code 623 = .ok (.iconst 2, 1) := by decide +kernel
theorem dL_624 : decode code 624 = .ok (.iadd, 1) := by decide +kernel
theorem dL_625 : decode code 625 = .ok (.iaload, 1) := by decide +kernel
theorem dL_626 : decode code 626 = .ok (.i2l, 1) := by decide +kernel
theorem dL_627 : decode code 627 = .ok (.ldc2_w 58, 3) := by decide +kernel
theorem dL_630 : decode code 630 = .ok (.land, 1) := by decide +kernel
theorem dL_631 : decode code 631 = .ok (.lor, 1) := by decide +kernel
theorem dL_632 : decode code 632 = .ok (.aload_n 0, 1) := by decide +kernel
theorem dL_633 : decode code 633 = .ok (.iload_n 3, 1) := by decide +kernel
theorem dL_634 : decode code 634 = .ok (.iconst 3, 1) := by decide +kernel
theorem dL_635 : decode code 635 = .ok (.iadd, 1) := by decide +kernel
theorem dL_636 : decode code 636 = .ok (.iaload, 1) := by decide +kernel
theorem dL_637 : decode code 637 = .ok (.invokevirtual 64, 3) := by decide +kernel
theorem dL_640 : decode code 640 = .ok (.if_icmp .eq 1105, 3) := by decide +kernel
theorem dL_643 : decode code 643 = .ok (.iconst 0, 1) := by decide +kernel
theorem dL_644 : decode code 644 = .ok (.ireturn, 1) := by decide +kernel
theorem dL_645 : decode code 645 = .ok (.aload_n 1, 1) := by decide +kernel
theorem dL_646 : decode code 646 = .ok (.invokevirtual 65, 3) := by decide +kernel
theorem dL_649 : decode code 649 = .ok (.aload_n 2, 1) := by decide +kernel
theorem dL_650 : decode code 650 = .ok (.invokevirtual 68, 3) := by decide +kernel
theorem dL_653 : decode code 653 = .ok (.if_icmp .eq 1092, 3) := by decide +kernel
theorem dL_656 : decode code 656 = .ok (.iconst 0, 1) := by decide +kernel
theorem dL_657 : decode code 657 = .ok (.ireturn, 1) := by decide +kernel
theorem dL_658 : decode code 658 = .ok (.aload_n 1, 1) := by decide +kernel
theorem dL_659 : decode code 659 = .ok (.invokevirtual 69, 3) := by decide +kernel
theorem dL_662 : decode code 662 = .ok (.aload_n 2, 1) := by decide +kernel
theorem dL_663 : decode code 663 = .ok (.invokevirtual 72, 3) := by decide +kernel
theorem dL_666 : decode code 666 = .ok (.if_icmp .eq 1079, 3) := by decide +kernel
theorem dL_669 : decode code 669 = .ok (.iconst 0, 1) := by decide +kernel
theorem dL_670 : decode code 670 = .ok (.ireturn, 1) := by decide +kernel
theorem dL_671 : decode code 671 = .ok (.aload_n 1, 1) := by decide +kernel
theorem dL_672 : decode code 672 = .ok (.aload_n 0, 1) := by decide +kernel
theorem dL_673 : decode code 673 = .ok (.iload_n 3, 1) := by decide +kernel
theorem dL_674 : decode code 674 = .ok (.iconst 1, 1) := by decide +kernel
theorem dL_675 : decode code 675 = .ok (.iadd, 1) := by decide +kernel
theorem dL_676 : decode code 676 = .ok (.iaload, 1) := by decide +kernel
theorem dL_677 : decode code 677 = .ok (.invokevirtual 73, 3) := by decide +kernel
theorem dL_680 : decode code 680 = .ok (.aload_n 2, 1) := by decide +kernel
theorem dL_681 : decode code 681 = .ok (.aload_n 0, 1) := by decide +kernel
theorem dL_682 : decode code 682 = .ok (.iload_n 3, 1) := by decide +kernel
theorem dL_683 : decode code 683 = .ok (.iconst 1, 1) := by decide +kernel
theorem dL_684 : decode code 684 = .ok (.iadd, 1) := by decide +kernel
theorem dL_685 : decode code 685 = .ok (.iaload, 1) := by decide +kernel
theorem dL_686 : decode code 686 = .ok (.invokevirtual 76, 3) := by decide +kernel
theorem dL_689 : decode code 689 = .ok (.if_icmp .eq 1056, 3) := by decide +kernel
theorem dL_692 : decode code 692 = .ok (.iconst 0, 1) := by decide +kernel
theorem dL_693 : decode code 693 = .ok (.ireturn, 1) := by decide +kernel
theorem dL_694 : decode code 694 = .ok (.aload_n 1, 1) := by decide +kernel
theorem dL_695 : decode code 695 = .ok (.aload_n 0, 1) := by decide +kernel
theorem dL_696 : decode code 696 = .ok (.iload_n 3, 1) := by decide +kernel
theorem dL_697 : decode code 697 = .ok (.iconst 1, 1) := by decide +kernel
theorem dL_698 : decode code 698 = .ok (.iadd, 1) := by decide +kernel
theorem dL_699 : decode code 699 = .ok (.iaload, 1) := by decide +kernel
theorem dL_700 : decode code 700 = .ok (.invokevirtual 77, 3) := by decide +kernel
theorem dL_703 : decode code 703 = .ok (.aload_n 2, 1) := by decide +kernel
theorem dL_704 : decode code 704 = .ok (.aload_n 0, 1) := by decide +kernel
theorem dL_705 : decode code 705 = .ok (.iload_n 3, 1) := by decide +kernel
theorem dL_706 : decode code 706 = .ok (.iconst 1, 1) := by decide +kernel
theorem dL_707 : decode code 707 = .ok (.iadd, 1) := by decide +kernel
theorem dL_708 : decode code 708 = .ok (.iaload, 1) := by decide +kernel
theorem dL_709 : decode code 709 = .ok (.invokevirtual 80, 3) := by decide +kernel
theorem dL_712 : decode code 712 = .ok (.if_icmp .eq 1033, 3) := by decide +kernel
theorem dL_715 : decode code 715 = .ok (.iconst 0, 1) := by decide +kernel
theorem dL_716 : decode code 716 = .ok (.ireturn, 1) := by decide +kernel
theorem dL_717 : decode code 717 = .ok (.aload_n 1, 1) := by decide +kernel
theorem dL_718 : decode code 718 = .ok (.aload_n 0, 1) := by decide +kernel
theorem dL_719 : decode code 719 = .ok (.iload_n 3, 1) := by decide +kernel
theorem dL_720 : decode code 720 = .ok (.iconst 1, 1) := by decide +kernel
theorem dL_721 : decode code 721 = .ok (.iadd, 1) := by decide +kernel
theorem dL_722 : decode code 722 = .ok (.iaload, 1) := by decide +kernel
theorem dL_723 : decode code 723 = .ok (.invokevirtual 81, 3) := by decide +kernel
theorem dL_726 : decode code 726 = .ok (.aload_n 2, 1) := by decide +kernel
theorem dL_727 : decode code 727 = .ok (.aload_n 0, 1) := by decide +kernel
theorem dL_728 : decode code 728 = .ok (.iload_n 3, 1) := by decide +kernel
theorem dL_729 : decode code 729 = .ok (.iconst 1, 1) := by decide +kernel
theorem dL_730 : decode code 730 = .ok (.iadd, 1) := by decide +kernel
theorem dL_731 : decode code 731 = .ok (.iaload, 1) := by decide +kernel
theorem dL_732 : decode code 732 = .ok (.invokevirtual 84, 3) := by decide +kernel
theorem dL_735 : decode code 735 = .ok (.if_icmp .eq 1010, 3) := by decide +kernel
theorem dL_738 : decode code 738 = .ok (.iconst 0, 1) := by decide +kernel
theorem dL_739 : decode code 739 = .ok (.ireturn, 1) := by decide +kernel
theorem dL_740 : decode code 740 = .ok (.aload_n 1, 1) := by decide +kernel
theorem dL_741 : decode code 741 = .ok (.aload_n 0, 1) := by decide +kernel
theorem dL_742 : decode code 742 = .ok (.iload_n 3, 1) := by decide +kernel
theorem dL_743 : decode code 743 = .ok (.iconst 1, 1) := by decide +kernel
theorem dL_744 : decode code 744 = .ok (.iadd, 1) := by decide +kernel
theorem dL_745 : decode code 745 = .ok (.iaload, 1) := by decide +kernel
theorem dL_746 : decode code 746 = .ok (.invokevirtual 85, 3) := by decide +kernel
theorem dL_749 : decode code 749 = .ok (.aload_n 2, 1) := by decide +kernel
theorem dL_750 : decode code 750 = .ok (.aload_n 0, 1) := by decide +kernel
theorem dL_751 : decode code 751 = .ok (.iload_n 3, 1) := by decide +kernel
theorem dL_752 : decode code 752 = .ok (.iconst 1, 1) := by decide +kernel
theorem dL_753 : decode code 753 = .ok (.iadd, 1) := by decide +kernel
theorem dL_754 : decode code 754 = .ok (.iaload, 1) := by decide +kernel
theorem dL_755 : decode code 755 = .ok (.invokevirtual 88, 3) := by decide +kernel
theorem dL_758 : decode code 758 = .ok (.if_icmp .eq 987, 3) := by decide +kernel
theorem dL_761 : decode code 761 = .ok (.iconst 0, 1) := by decide +kernel
theorem dL_762 : decode code 762 = .ok (.ireturn, 1) := by decide +kernel
theorem dL_763 : decode code 763 = .ok (.aload_n 1, 1) := by decide +kernel
theorem dL_764 : decode code 764 = .ok (.aload_n 0, 1) := by decide +kernel
theorem dL_765 : decode code 765 = .ok (.iload_n 3, 1) := by decide +kernel
theorem dL_766 : decode code 766 = .ok (.iconst 1, 1) := by decide +kernel
theorem dL_767 : decode code 767 = .ok (.iadd, 1) := by decide +kernel
theorem dL_768 : decode code 768 = .ok (.iaload, 1) := by decide +kernel
theorem dL_769 : decode code 769 = .ok (.invokevirtual 89, 3) := by decide +kernel
theorem dL_772 : decode code 772 = .ok (.aload_n 2, 1) := by decide +kernel
theorem dL_773 : decode code 773 = .ok (.aload_n 0, 1) := by decide +kernel
theorem dL_774 : decode code 774 = .ok (.iload_n 3, 1) := by decide +kernel
theorem dL_775 : decode code 775 = .ok (.iconst 1, 1) := by decide +kernel
theorem dL_776 : decode code 776 = .ok (.iadd, 1) := by decide +kernel
theorem dL_777 : decode code 777 = .ok (.iaload, 1) := by decide +kernel
theorem dL_778 : decode code 778 = .ok (.invokevirtual 92, 3) := by decide +kernel
theorem dL_781 : decode code 781 = .ok (.if_icmp .eq 964, 3) := by decide +kernel
theorem dL_784 : decode code 784 = .ok (.iconst 0, 1) := by decide +kernel
theorem dL_785 : decode code 785 = .ok (.ireturn, 1) := by decide +kernel
theorem dL_786 : decode code 786 = .ok (.aload_n 1, 1) := by decide +kernel
theorem dL_787 : decode code 787 = .ok (.aload_n 0, 1) := by decide +kernel
theorem dL_788 : decode code 788 = .ok (.iload_n 3, 1) := by decide +kernel
theorem dL_789 : decode code 789 = .ok (.iconst 1, 1) := by decide +kernel
theorem dL_790 : decode code 790 = .ok (.iadd, 1) := by decide +kernel
theorem dL_791 : decode code 791 = .ok (.iaload, 1) := by decide +kernel
theorem dL_792 : decode code 792 = .ok (.invokevirtual 93, 3) := by decide +kernel
theorem dL_795 : decode code 795 = .ok (.aload_n 2, 1) := by decide +kernel
theorem dL_796 : decode code 796 = .ok (.aload_n 0, 1) := by decide +kernel
theorem dL_797 : decode code 797 = .ok (.iload_n 3, 1) := by decide +kernel
theorem dL_798 : decode code 798 = .ok (.iconst 1, 1) := by decide +kernel
theorem dL_799 : decode code 799 = .ok (.iadd, 1) := by decide +kernel
theorem dL_800 : decode code 800 = .ok (.iaload, 1) := by decide +kernel
theorem dL_801 : decode code 801 = .ok (.invokevirtual 96, 3) := by decide +kernel
theorem dL_804 : decode code 804 = .ok (.if_icmp .eq 941, 3) := by decide +kernel
theorem dL_807 : decode code 807 = .ok (.iconst 0, 1) := by decide +kernel
theorem dL_808 : decode code 808 = .ok (.ireturn, 1) := by decide +kernel
theorem dL_809 : decode code 809 = .ok (.aload_n 1, 1) := by decide +kernel
theorem dL_810 : decode code 810 = .ok (.aload_n 0, 1) := by decide +kernel
theorem dL_811 : decode code 811 = .ok (.iload_n 3, 1) := by decide +kernel
theorem dL_812 : decode code 812 = .ok (.iconst 1, 1) := by decide +kernel
theorem dL_813 : decode code 813 = .ok (.iadd, 1) := by decide +kernel
theorem dL_814 : decode code 814 = .ok (.iaload, 1) := by decide +kernel
theorem dL_815 : decode code 815 = .ok (.aload_n 0, 1) := by decide +kernel
theorem dL_816 : decode code 816 = .ok (.iload_n 3, 1) := by decide +kernel
theorem dL_817 : decode code 817 = .ok (.iconst 2, 1) := by decide +kernel
theorem dL_818 : decode code 818 = .ok (.iadd, 1) := by decide +kernel
theorem dL_819 : decode code 819 = .ok (.iaload, 1) := by decide +kernel
theorem dL_820 : decode code 820 = .ok (.invokevirtual 97, 3) := by decide +kernel
theorem dL_823 : decode code 823 = .ok (.aload_n 2, 1) := by decide +kernel
theorem dL_824 : decode code 824 = .ok (.aload_n 0, 1) := by decide +kernel
theorem dL_825 : decode code 825 = .ok (.iload_n 3, 1) := by decide +kernel
theorem dL_826 : decode code 826 = .ok (.iconst 1, 1) := by decide +kernel
theorem dL_827 : decode code 827 = .ok (.iadd, 1) := by decide +kernel
theorem dL_828 : decode code 828 = .ok (.iaload, 1) := by decide +kernel
theorem dL_829 : decode code 829 = .ok (.aload_n 0, 1) := by decide +kernel
theorem dL_830 : decode code 830 = .ok (.iload_n 3, 1) := by decide +kernel
theorem dL_831 : decode code 831 = .ok (.iconst 2, 1) := by decide +kernel
theorem dL_832 : decode code 832 = .ok (.iadd, 1) := by decide +kernel
theorem dL_833 : decode code 833 = .ok (.iaload, 1) := by decide +kernel
theorem dL_834 : decode code 834 = .ok (.invokevirtual 100, 3) := by decide +kernel
theorem dL_837 : decode code 837 = .ok (.if_icmp .eq 908, 3) := by decide +kernel
theorem dL_840 : decode code 840 = .ok (.iconst 0, 1) := by decide +kernel
theorem dL_841 : decode code 841 = .ok (.ireturn, 1) := by decide +kernel
theorem dL_842 : decode code 842 = .ok (.aload_n 1, 1) := by decide +kernel
theorem dL_843 : decode code 843 = .ok (.aload_n 0, 1) := by decide +kernel
theorem dL_844 : decode code 844 = .ok (.iload_n 3, 1) := by decide +kernel
theorem dL_845 : decode code 845 = .ok (.iconst 1, 1) := by decide +kernel
theorem dL_846 : decode code 846 = .ok (.iadd, 1) := by decide +kernel
theorem dL_847 : decode code 847 = .ok (.iaload, 1) := by decide +kernel
theorem dL_848 : decode code 848 = .ok (.invokevirtual 101, 3) := by decide +kernel
theorem dL_851 : decode code 851 = .ok (.aload_n 2, 1) := by decide +kernel
theorem dL_852 : decode code 852 = .ok (.aload_n 0, 1) := by decide +kernel
theorem dL_853 : decode code 853 = .ok (.iload_n 3, 1) := by decide +kernel
theorem dL_854 : decode code 854 = .ok (.iconst 1, 1) := by decide +kernel
theorem dL_855 : decode code 855 = .ok (.iadd, 1) := by decide +kernel
theorem dL_856 : decode code 856 = .ok (.iaload, 1) := by decide +kernel
theorem dL_857 : decode code 857 = .ok (.invokevirtual 104, 3) := by decide +kernel
theorem dL_860 : decode code 860 = .ok (.if_icmp .eq 885, 3) := by decide +kernel
theorem dL_863 : decode code 863 = .ok (.iconst 0, 1) := by decide +kernel
theorem dL_864 : decode code 864 = .ok (.ireturn, 1) := by decide +kernel
theorem dL_865 : decode code 865 = .ok (.aload_n 1, 1) := by decide +kernel
theorem dL_866 : decode code 866 = .ok (.aload_n 0, 1) := by decide +kernel
theorem dL_867 : decode code 867 = .ok (.iload_n 3, 1) := by decide +kernel
theorem dL_868 : decode code 868 = .ok (.iconst 1, 1) := by decide +kernel
theorem dL_869 : decode code 869 = .ok (.iadd, 1) := by decide +kernel
theorem dL_870 : decode code 870 = .ok (.iaload, 1) := by decide +kernel
theorem dL_871 : decode code 871 = .ok (.invokevirtual 105, 3) := by decide +kernel
theorem dL_874 : decode code 874 = .ok (.aload_n 2, 1) := by decide +kernel
theorem dL_875 : decode code 875 = .ok (.aload_n 0, 1) := by decide +kernel
theorem dL_876 : decode code 876 = .ok (.iload_n 3, 1) := by decide +kernel
theorem dL_877 : decode code 877 = .ok (.iconst 1, 1) := by decide +kernel
theorem dL_878 : decode code 878 = .ok (.iadd, 1) := by decide +kernel
theorem dL_879 : decode code 879 = .ok (.iaload, 1) := by decide +kernel
theorem dL_880 : decode code 880 = .ok (.invokevirtual 108, 3) := by decide +kernel
theorem dL_883 : decode code 883 = .ok (.if_icmp .eq 862, 3) := by decide +kernel
theorem dL_886 : decode code 886 = .ok (.iconst 0, 1) := by decide +kernel
theorem dL_887 : decode code 887 = .ok (.ireturn, 1) := by decide +kernel
theorem dL_888 : decode code 888 = .ok (.aload_n 1, 1) := by decide +kernel
theorem dL_889 : decode code 889 = .ok (.aload_n 0, 1) := by decide +kernel
theorem dL_890 : decode code 890 = .ok (.iload_n 3, 1) := by decide +kernel
theorem dL_891 : decode code 891 = .ok (.iconst 1, 1) := by decide +kernel
theorem dL_892 : decode code 892 = .ok (.iadd, 1) := by decide +kernel
theorem dL_893 : decode code 893 = .ok (.iaload, 1) := by decide +kernel
theorem dL_894 : decode code 894 = .ok (.aload_n 0, 1) := by decide +kernel
theorem dL_895 : decode code 895 = .ok (.iload_n 3, 1) := by decide +kernel
theorem dL_896 : decode code 896 = .ok (.iconst 2, 1) := by decide +kernel
theorem dL_897 : decode code 897 = .ok (.iadd, 1) := by decide +kernel
theorem dL_898 : decode code 898 = .ok (.iaload, 1) := by decide +kernel
theorem dL_899 : decode code 899 = .ok (.invokevirtual 109, 3) := by decide +kernel
theorem dL_902 : decode code 902 = .ok (.aload_n 2, 1) := by decide +kernel
theorem dL_903 : decode code 903 = .ok (.aload_n 0, 1) := by decide +kernel
theorem dL_904 : decode code 904 = .ok (.iload_n 3, 1) := by decide +kernel
theorem dL_905 : decode code 905 = .ok (.iconst 1, 1) := by decide +kernel
theorem dL_906 : decode code 906 = .ok (.iadd, 1) := by decide +kernel
theorem dL_907 : decode code 907 = .ok (.iaload, 1) := by decide +kernel
theorem dL_908 : decode code 908 = .ok (.aload_n 0, 1) := by decide +kernel
theorem dL_909 : decode code 909 = .ok (.iload_n 3, 1) := by decide +kernel
theorem dL_910 : decode code 910 = .ok (.iconst 2, 1) := by decide +kernel
theorem dL_911 : decode code 911 = .ok (.iadd, 1) := by decide +kernel
theorem dL_912 : decode code 912 = .ok (.iaload, 1) := by decide +kernel
theorem dL_913 : decode code 913 = .ok (.invokevirtual 112, 3) := by decide +kernel
theorem dL_916 : decode code 916 = .ok (.if_icmp .eq 829, 3) := by decide +kernel
theorem dL_919 : decode code 919 = .ok (.iconst 0, 1) := by decide +kernel
theorem dL_920 : decode code 920 = .ok (.ireturn, 1) := by decide +kernel
theorem dL_921 : decode code 921 = .ok (.aload_n 1, 1) := by decide +kernel
theorem dL_922 : decode code 922 = .ok (.aload_n 0, 1) := by decide +kernel
theorem dL_923 : decode code 923 = .ok (.iload_n 3, 1) := by decide +kernel
theorem dL_924 : decode code 924 = .ok (.iconst 1, 1) := by decide +kernel
theorem dL_925 : decode code 925 = .ok (.iadd, 1) := by decide +kernel
theorem dL_926 : decode code 926 = .ok (.iaload, 1) := by decide +kernel
theorem dL_927 : decode code 927 = .ok (.invokevirtual 113, 3) := by decide +kernel
theorem dL_930 : decode code 930 = .ok (.aload_n 2, 1) := by decide +kernel
theorem dL_931 : decode code 931 = .ok (.aload_n 0, 1) := by decide +kernel
theorem dL_932 : decode code 932 = .ok (.iload_n 3, 1) := by decide +kernel
theorem dL_933 : decode code 933 = .ok (.iconst 1, 1) := by decide +kernel
theorem dL_934 : decode code 934 = .ok (.iadd, 1) := by decide +kernel
theorem dL_935 : decode code 935 = .ok (.iaload, 1) := by decide +kernel
theorem dL_936 : decode code 936 = .ok (.invokevirtual 116, 3) := by decide +kernel
theorem dL_939 : decode code 939 = .ok (.if_icmp .eq 806, 3) := by decide +kernel
theorem dL_942 : decode code 942 = .ok (.iconst 0, 1) := by decide +kernel
theorem dL_943 : decode code 943 = .ok (.ireturn, 1) := by decide +kernel
theorem dL_944 : decode code 944 = .ok (.aload_n 1, 1) := by decide +kernel
theorem dL_945 : decode code 945 = .ok (.aload_n 0, 1) := by decide +kernel
theorem dL_946 : decode code 946 = .ok (.iload_n 3, 1) := by decide +kernel
theorem dL_947 : decode code 947 = .ok (.iconst 1, 1) := by decide +kernel
theorem dL_948 : decode code 948 = .ok (.iadd, 1) := by decide +kernel
theorem dL_949 : decode code 949 = .ok (.iaload, 1) := by decide +kernel
theorem dL_950 : decode code 950 = .ok (.aload_n 0, 1) := by decide +kernel
theorem dL_951 : decode code 951 = .ok (.iload_n 3, 1) := by decide +kernel
theorem dL_952 : decode code 952 = .ok (.iconst 2, 1) := by decide +kernel
theorem dL_953 : decode code 953 = .ok (.iadd, 1) := by decide +kernel
theorem dL_954 : decode code 954 = .ok (.iaload, 1) := by decide +kernel
theorem dL_955 : decode code 955 = .ok (.invokevirtual 117, 3) := by decide +kernel
theorem dL_958 : decode code 958 = .ok (.aload_n 2, 1) := by decide +kernel
theorem dL_959 : decode code 959 = .ok (.aload_n 0, 1) := by decide +kernel
theorem dL_960 : decode code 960 = .ok (.iload_n 3, 1) := by decide +kernel
theorem dL_961 : decode code 961 = .ok (.iconst 1, 1) := by decide +kernel
theorem dL_962 : decode code 962 = .ok (.iadd, 1) := by decide +kernel
theorem dL_963 : decode code 963 = .ok (.iaload, 1) := by decide +kernel
theorem dL_964 : decode code 964 = .ok (.aload_n 0, 1) := by decide +kernel
theorem dL_965 : decode code 965 = .ok (.iload_n 3, 1) := by decide +kernel
theorem dL_966 : decode code 966 = .ok (.iconst 2, 1) := by decide +kernel
theorem dL_967 : decode code 967 = .ok (.iadd, 1) := by decide +kernel
theorem dL_968 : decode code 968 = .ok (.iaload, 1) := by decide +kernel
theorem dL_969 : decode code 969 = .ok (.invokevirtual 120, 3) := by decide +kernel
theorem dL_972 : decode code 972 = .ok (.if_icmp .eq 773, 3) := by decide +kernel
theorem dL_975 : decode code 975 = .ok (.iconst 0, 1) := by decide +kernel
theorem dL_976 : decode code 976 = .ok (.ireturn, 1) := by decide +kernel
theorem dL_977 : decode code 977 = .ok (.aload_n 1, 1) := by decide +kernel
theorem dL_978 : decode code 978 = .ok (.aload_n 0, 1) := by decide +kernel
theorem dL_979 : decode code 979 = .ok (.iload_n 3, 1) := by decide +kernel
theorem dL_980 : decode code 980 = .ok (.iconst 1, 1) := by decide +kernel
theorem dL_981 : decode code 981 = .ok (.iadd, 1) := by decide +kernel
theorem dL_982 : decode code 982 = .ok (.iaload, 1) := by decide +kernel
theorem dL_983 : decode code 983 = .ok (.aload_n 0, 1) := by decide +kernel
theorem dL_984 : decode code 984 = .ok (.iload_n 3, 1) := by decide +kernel
theorem dL_985 : decode code 985 = .ok (.iconst 2, 1) := by decide +kernel
theorem dL_986 : decode code 986 = .ok (.iadd, 1) := by decide +kernel
theorem dL_987 : decode code 987 = .ok (.iaload, 1) := by decide +kernel
theorem dL_988 : decode code 988 = .ok (.invokevirtual 121, 3) := by decide +kernel
theorem dL_991 : decode code 991 = .ok (.aload_n 2, 1) := by decide +kernel
theorem dL_992 : decode code 992 = .ok (.aload_n 0, 1) := by decide +kernel
theorem dL_993 : decode code 993 = .ok (.iload_n 3, 1) := by decide +kernel
theorem dL_994 : decode code 994 = .ok (.iconst 1, 1) := by decide +kernel
theorem dL_995 : decode code 995 = .ok (.iadd, 1) := by decide +kernel
theorem dL_996 : decode code 996 = .ok (.iaload, 1) := by decide +kernel
theorem dL_997 : decode code 997 = .ok (.aload_n 0, 1) := by decide +kernel
theorem dL_998 : decode code 998 = .ok (.iload_n 3, 1) := by decide +kernel
theorem dL_999 : decode code 999 = .ok (.iconst 2, 1) := by decide +kernel
theorem dL_1000 : decode code 1000 = .ok (.iadd, 1) := by decide +kernel
theorem dL_1001 : decode code 1001 = .ok (.iaload, 1) := by decide +kernel
theorem dL_1002 : decode code 1002 = .ok (.invokevirtual 124, 3) := by decide +kernel
theorem dL_1005 : decode code 1005 = .ok (.if_icmp .eq 740, 3) := by decide +kernel
theorem dL_1008 : decode code 1008 = .ok (.iconst 0, 1) := by decide +kernel
theorem dL_1009 : decode code 1009 = .ok (.ireturn, 1) := by decide +kernel
theorem dL_1010 : decode code 1010 = .ok (.aload_n 1, 1) := by decide +kernel
theorem dL_1011 : decode code 1011 = .ok (.aload_n 0, 1) := by decide +kernel
theorem dL_1012 : decode code 1012 = .ok (.iload_n 3, 1) := by decide +kernel
theorem dL_1013 : decode code 1013 = .ok (.iconst 1, 1) := by decide +kernel
theorem dL_1014 : decode code 1014 = .ok (.iadd, 1) := by decide +kernel
theorem dL_1015 : decode code 1015 = .ok (.iaload, 1) := by decide +kernel
theorem dL_1016 : decode code 1016 = .ok (.invokevirtual 125, 3) := by decide +kernel
theorem dL_1019 : decode code 1019 = .ok (.aload_n 2, 1) := by decide +kernel
theorem dL_1020 : decode code 1020 = .ok (.aload_n 0, 1) := by decide +kernel
theorem dL_1021 : decode code 1021 = .ok (.iload_n 3, 1) := by decide +kernel
theorem dL_1022 : decode code 1022 = .ok (.iconst 1, 1) := by decide +kernel
theorem dL_1023 : decode code 1023 = .ok (.iadd, 1) := by decide +kernel
theorem dL_1024 : decode code 1024 = .ok (.iaload, 1) := by decide +kernel
theorem dL_1025 : decode code 1025 = .ok (.invokevirtual 128, 3) := by decide +kernel
theorem dL_1028 : decode code 1028 = .ok (.if_icmp .eq 717, 3) := by decide +kernel
theorem dL_1031 : decode code 1031 = .ok (.iconst 0, 1) := by decide +kernel
theorem dL_1032 : decode code 1032 = .ok (.ireturn, 1) := by decide +kernel
theorem dL_1033 : decode code 1033 = .ok (.aload_n 1, 1) := by decide +kernel
theorem dL_1034 : decode code 1034 = .ok (.aload_n 0, 1) := by decide +kernel
theorem dL_1035 : decode code 1035 = .ok (.iload_n 3, 1) := by decide +kernel
theorem dL_1036 : decode code 1036 = .ok (.iconst 1, 1) := by decide +kernel
theorem dL_1037 : decode code 1037 = .ok (.iadd, 1) := by decide +kernel
theorem dL_1038 : decode code 1038 = .ok (.iaload, 1) := by decide +kernel
theorem dL_1039 : decode code 1039 = .ok (.invokevirtual 129, 3) := by decide +kernel
theorem dL_1042 : decode code 1042 = .ok (.aload_n 2, 1) := by decide +kernel
theorem dL_1043 : decode code 1043 = .ok (.aload_n 0, 1) := by decide +kernel
theorem dL_1044 : decode code 1044 = .ok (.iload_n 3, 1) := by decide +kernel
theorem dL_1045 : decode code 1045 = .ok (.iconst 1, 1) := by decide +kernel
theorem dL_1046 : decode code 1046 = .ok (.iadd, 1) := by decide +kernel
theorem dL_1047 : decode code 1047 = .ok (.iaload, 1) := by decide +kernel
theorem dL_1048 : decode code 1048 = .ok (.invokevirtual 132, 3) := by decide +kernel
theorem dL_1051 : decode code 1051 = .ok (.if_icmp .eq 694, 3) := by decide +kernel
theorem dL_1054 : decode code 1054 = .ok (.iconst 0, 1) := by decide +kernel
theorem dL_1055 : decode code 1055 = .ok (.ireturn, 1) := by decide +kernel
theorem dL_1056 : decode code 1056 = .ok (.aload_n 1, 1) := by decide +kernel
theorem dL_1057 : decode code 1057 = .ok (.aload_n 0, 1) := by decide +kernel
theorem dL_1058 : decode code 1058 = .ok (.iload_n 3, 1) := by decide +kernel
theorem dL_1059 : decode code 1059 = .ok (.iconst 1, 1) := by decide +kernel
theorem dL_1060 : decode code 1060 = .ok (.iadd, 1) := by decide +kernel
theorem dL_1061 : decode code 1061 = .ok (.iaload, 1) := by decide +kernel
theorem dL_1062 : decode code 1062 = .ok (.aload_n 0, 1) := by decide +kernel
theorem dL_1063 : decode code 1063 = .ok (.iload_n 3, 1) := by decide +kernel
theorem dL_1064 : decode code 1064 = .ok (.iconst 2, 1) := by decide +kernel
theorem dL_1065 : decode code 1065 = .ok (.iadd, 1) := by decide +kernel
theorem dL_1066 : decode code 1066 = .ok (.iaload, 1) := by decide +kernel
theorem dL_1067 : decode code 1067 = .ok (.aload_n 0, 1) := by decide +kernel
theorem dL_1068 : decode code 1068 = .ok (.iload_n 3, 1) := by decide +kernel
theorem dL_1069 : decode code 1069 = .ok (.iconst 3, 1) := by decide +kernel
theorem dL_1070 : decode code 1070 = .ok (.iadd, 1) := by decide +kernel
theorem dL_1071 : decode code 1071 = .ok (.iaload, 1) := by decide +kernel
theorem dL_1072 : decode code 1072 = .ok (.aload_n 0, 1) := by decide +kernel
theorem dL_1073 : decode code 1073 = .ok (.iload_n 3, 1) := by decide +kernel
theorem dL_1074 : decode code 1074 = .ok (.iconst 4, 1) := by decide +kernel
theorem dL_1075 : decode code 1075 = .ok (.iadd, 1) := by decide +kernel
theorem dL_1076 : decode code 1076 = .ok (.iaload, 1) := by decide +kernel
theorem dL_1077 : decode code 1077 = .ok (.invokevirtual 133, 3) := by decide +kernel
theorem dL_1080 : decode code 1080 = .ok (.aload_n 2, 1) := by decide +kernel
theorem dL_1081 : decode code 1081 = .ok (.aload_n 0, 1) := by decide +kernel
theorem dL_1082 : decode code 1082 = .ok (.iload_n 3, 1) := by decide +kernel
theorem dL_1083 : decode code 1083 = .ok (.iconst 1, 1) := by decide +kernel
theorem dL_1084 : decode code 1084 = .ok (.iadd, 1) := by decide +kernel
theorem dL_1085 : decode code 1085 = .ok (.iaload, 1) := by decide +kernel
theorem dL_1086 : decode code 1086 = .ok (.aload_n 0, 1) := by decide +kernel
theorem dL_1087 : decode code 1087 = .ok (.iload_n 3, 1) := by decide +kernel
theorem dL_1088 : decode code 1088 = .ok (.iconst 2, 1) := by decide +kernel
theorem dL_1089 : decode code 1089 = .ok (.iadd, 1) := by decide +kernel
theorem dL_1090 : decode code 1090 = .ok (.iaload, 1) := by decide +kernel
theorem dL_1091 : decode code 1091 = .ok (.aload_n 0, 1) := by decide +kernel
theorem dL_1092 : decode code 1092 = .ok (.iload_n 3, 1) := by decide +kernel
theorem dL_1093 : decode code 1093 = .ok (.iconst 3, 1) := by decide +kernel
theorem dL_1094 : decode code 1094 = .ok (.iadd, 1) := by decide +kernel
theorem dL_1095 : decode code 1095 = .ok (.iaload, 1) := by decide +kernel
theorem dL_1096 : decode code 1096 = .ok (.aload_n 0, 1) := by decide +kernel
theorem dL_1097 : decode code 1097 = .ok (.iload_n 3, 1) := by decide +kernel
theorem dL_1098 : decode code 1098 = .ok (.iconst 4, 1) := by decide +kernel
theorem dL_1099 : decode code 1099 = .ok (.iadd, 1) := by decide +kernel
theorem dL_1100 : decode code 1100 = .ok (.iaload, 1) := by decide +kernel
theorem dL_1101 : decode code 1101 = .ok (.invokevirtual 136, 3) := by decide +kernel
theorem dL_1104 : decode code 1104 = .ok (.if_icmp .eq 641, 3) := by decide +kernel
theorem dL_1107 : decode code 1107 = .ok (.iconst 0, 1) := by decide +kernel
theorem dL_1108 : decode code 1108 = .ok (.ireturn, 1) := by decide +kernel
theorem dL_1109 : decode code 1109 = .ok (.aload_n 1, 1) := by decide +kernel
theorem dL_1110 : decode code 1110 = .ok (.invokevirtual 137, 3) := by decide +kernel
theorem dL_1113 : decode code 1113 = .ok (.aload_n 2, 1) := by decide +kernel
theorem dL_1114 : decode code 1114 = .ok (.invokevirtual 140, 3) := by decide +kernel
theorem dL_1117 : decode code 1117 = .ok (.if_icmp .eq 628, 3) := by decide +kernel
theorem dL_1120 : decode code 1120 = .ok (.iconst 0, 1) := by decide +kernel
theorem dL_1121 : decode code 1121 = .ok (.ireturn, 1) := by decide +kernel
theorem dL_1122 : decode code 1122 = .ok (.aload_n 1, 1) := by decide +kernel
theorem dL_1123 : decode code 1123 = .ok (.aload_n 0, 1) := by decide +kernel
theorem dL_1124 : decode code 1124 = .ok (.iload_n 3, 1) := by decide +kernel
theorem dL_1125 : decode code 1125 = .ok (.iconst 1, 1) := by decide +kernel
theorem dL_1126 : decode code 1126 = .ok (.iadd, 1) := by decide +kernel
theorem dL_1127 : decode code 1127 = .ok (.iaload, 1) := by decide +kernel
theorem dL_1128 : decode code 1128 = .ok (.invokevirtual 141, 3) := by decide +kernel
theorem dL_1131 : decode code 1131 = .ok (.aload_n 2, 1) := by decide +kernel
theorem dL_1132 : decode code 1132 = .ok (.aload_n 0, 1) := by decide +kernel
theorem dL_1133 : decode code 1133 = .ok (.iload_n 3, 1) := by decide +kernel
theorem dL_1134 : decode code 1134 = .ok (.iconst 1, 1) := by decide +kernel
theorem dL_1135 : decode code 1135 = .ok (.iadd, 1) := by decide +kernel
theorem dL_1136 : decode code 1136 = .ok (.iaload, 1) := by decide +kernel
theorem dL_1137 : decode code 1137 = .ok (.invokevirtual 144, 3) := by decide +kernel
theorem dL_1140 : decode code 1140 = .ok (.if_icmp .eq 605, 3) := by decide +kernel
theorem dL_1143 : decode code 1143 = .ok (.iconst 0, 1) := by decide +kernel
theorem dL_1144 : decode code 1144 = .ok (.ireturn, 1) := by decide +kernel
theorem dL_1145 : decode code 1145 = .ok (.aload_n 1, 1) := by decide +kernel
theorem dL_1146 : decode code 1146 = .ok (.invokevirtual 145, 3) := by decide +kernel
theorem dL_1149 : decode code 1149 = .ok (.aload_n 2, 1) := by decide +kernel
theorem dL_1150 : decode code 1150 = .ok (.invokevirtual 148, 3) := by decide +kernel
theorem dL_1153 : decode code 1153 = .ok (.if_icmp .eq 592, 3) := by decide +kernel
theorem dL_1156 : decode code 1156 = .ok (.iconst 0, 1) := by decide +kernel
theorem dL_1157 : decode code 1157 = .ok (.ireturn, 1) := by decide +kernel
theorem dL_1158 : decode code 1158 = .ok (.aload_n 1, 1) := by decide +kernel
theorem dL_1159 : decode code 1159 = .ok (.aload_n 0, 1) := by decide +kernel
theorem dL_1160 : decode code 1160 = .ok (.iload_n 3, 1) := by decide +kernel
theorem dL_1161 : decode code 1161 = .ok (.iconst 1, 1) := by decide +kernel
theorem dL_1162 : decode code 1162 = .ok (.iadd, 1) := by decide +kernel
theorem dL_1163 : decode code 1163 = .ok (.iaload, 1) := by decide +kernel
theorem dL_1164 : decode code 1164 = .ok (.invokevirtual 149, 3) := by decide +kernel
theorem dL_1167 : decode code 1167 = .ok (.aload_n 2, 1) := by decide +kernel
theorem dL_1168 : decode code 1168 = .ok (.aload_n 0, 1) := by decide +kernel
theorem dL_1169 : decode code 1169 = .ok (.iload_n 3, 1) := by decide +kernel
theorem dL_1170 : decode code 1170 = .ok (.iconst 1, 1) := by decide +kernel
theorem dL_1171 : decode code 1171 = .ok (.iadd, 1) := by decide +kernel
theorem dL_1172 : decode code 1172 = .ok (.iaload, 1) := by decide +kernel
theorem dL_1173 : decode code 1173 = .ok (.invokevirtual 152, 3) := by decide +kernel
theorem dL_1176 : decode code 1176 = .ok (.if_icmp .eq 569, 3) := by decide +kernel
theorem dL_1179 : decode code 1179 = .ok (.iconst 0, 1) := by decide +kernel
theorem dL_1180 : decode code 1180 = .ok (.ireturn, 1) := by decide +kernel
theorem dL_1181 : decode code 1181 = .ok (.aload_n 1, 1) := by decide +kernel
theorem dL_1182 : decode code 1182 = .ok (.invokevirtual 153, 3) := by decide +kernel
theorem dL_1185 : decode code 1185 = .ok (.aload_n 2, 1) := by decide +kernel
theorem dL_1186 : decode code 1186 = .ok (.invokevirtual 156, 3) := by decide +kernel
theorem dL_1189 : decode code 1189 = .ok (.if_icmp .eq 556, 3) := by decide +kernel
theorem dL_1192 : decode code 1192 = .ok (.iconst 0, 1) := by decide +kernel
theorem dL_1193 : decode code 1193 = .ok (.ireturn, 1) := by decide +kernel
theorem dL_1194 : decode code 1194 = .ok (.aload_n 1, 1) := by decide +kernel
theorem dL_1195 : decode code 1195 = .ok (.aload_n 0, 1) := by decide +kernel
theorem dL_1196 : decode code 1196 = .ok (.iload_n 3, 1) := by decide +kernel
theorem dL_1197 : decode code 1197 = .ok (.iconst 1, 1) := by decide +kernel
theorem dL_1198 : decode code 1198 = .ok (.iadd, 1) := by decide +kernel
theorem dL_1199 : decode code 1199 = .ok (.iaload, 1) := by decide +kernel
theorem dL_1200 : decode code 1200 = .ok (.aload_n 0, 1) := by decide +kernel
theorem dL_1201 : decode code 1201 = .ok (.iload_n 3, 1) := by decide +kernel
theorem dL_1202 : decode code 1202 = .ok (.iconst 2, 1) := by decide +kernel
theorem dL_1203 : decode code 1203 = .ok (.iadd, 1) := by decide +kernel
theorem dL_1204 : decode code 1204 = .ok (.iaload, 1) := by decide +kernel
theorem dL_1205 : decode code 1205 = .ok (.invokevirtual 157, 3) := by decide +kernel
theorem dL_1208 : decode code 1208 = .ok (.aload_n 2, 1) := by decide +kernel
theorem dL_1209 : decode code 1209 = .ok (.aload_n 0, 1) := by decide +kernel
theorem dL_1210 : decode code 1210 = .ok (.iload_n 3, 1) := by decide +kernel
theorem dL_1211 : decode code 1211 = .ok (.iconst 1, 1) := by decide +kernel
theorem dL_1212 : decode code 1212 = .ok (.iadd, 1) := by decide +kernel
theorem dL_1213 : decode code 1213 = .ok (.iaload, 1) := by decide +kernel
theorem dL_1214 : decode code 1214 = .ok (.aload_n 0, 1) := by decide +kernel
theorem dL_1215 : decode code 1215 = .ok (.iload_n 3, 1) := by decide +kernel
theorem dL_1216 : decode code 1216 = .ok (.iconst 2, 1) := by decide +kernel
theorem dL_1217 : decode code 1217 = .ok (.iadd, 1) := by decide +kernel
theorem dL_1218 : decode code 1218 = .ok (.iaload, 1) := by decide +kernel
theorem dL_1219 : decode code 1219 = .ok (.invokevirtual 160, 3) := by decide +kernel
theorem dL_1222 : decode code 1222 = .ok (.if_icmp .eq 523, 3) := by decide +kernel
theorem dL_1225 : decode code 1225 = .ok (.iconst 0, 1) := by decide +kernel
theorem dL_1226 : decode code 1226 = .ok (.ireturn, 1) := by decide +kernel
theorem dL_1227 : decode code 1227 = .ok (.aload_n 1, 1) := by decide +kernel
theorem dL_1228 : decode code 1228 = .ok (.aload_n 0, 1) := by decide +kernel
theorem dL_1229 : decode code 1229 = .ok (.iload_n 3, 1) := by decide +kernel
theorem dL_1230 : decode code 1230 = .ok (.iconst 1, 1) := by decide +kernel
theorem dL_1231 : decode code 1231 = .ok (.iadd, 1) := by decide +kernel
theorem dL_1232 : decode code 1232 = .ok (.iaload, 1) := by decide +kernel
theorem dL_1233 : decode code 1233 = .ok (.invokevirtual 161, 3) := by decide +kernel
theorem dL_1236 : decode code 1236 = .ok (.aload_n 2, 1) := by decide +kernel
theorem dL_1237 : decode code 1237 = .ok (.aload_n 0, 1) := by decide +kernel
theorem dL_1238 : decode code 1238 = .ok (.iload_n 3, 1) := by decide +kernel
theorem dL_1239 : decode code 1239 = .ok (.iconst 1, 1) := by decide +kernel
theorem dL_1240 : decode code 1240 = .ok (.iadd, 1) := by decide +kernel
theorem dL_1241 : decode code 1241 = .ok (.iaload, 1) := by decide +kernel
theorem dL_1242 : decode code 1242 = .ok (.invokevirtual 164, 3) := by decide +kernel
theorem dL_1245 : decode code 1245 = .ok (.if_icmp .eq 500, 3) := by decide +kernel
theorem dL_1248 : decode code 1248 = .ok (.iconst 0, 1) := by decide +kernel
theorem dL_1249 : decode code 1249 = .ok (.ireturn, 1) := by decide +kernel
theorem dL_1250 : decode code 1250 = .ok (.aload_n 1, 1) := by decide +kernel
theorem dL_1251 : decode code 1251 = .ok (.aload_n 0, 1) := by decide +kernel
theorem dL_1252 : decode code 1252 = .ok (.iload_n 3, 1) := by decide +kernel
theorem dL_1253 : decode code 1253 = .ok (.iconst 1, 1) := by decide +kernel
theorem dL_1254 : decode code 1254 = .ok (.iadd, 1) := by decide +kernel
theorem dL_1255 : decode code 1255 = .ok (.iaload, 1) := by decide +kernel
theorem dL_1256 : decode code 1256 = .ok (.aload_n 0, 1) := by decide +kernel
theorem dL_1257 : decode code 1257 = .ok (.iload_n 3, 1) := by decide +kernel
theorem dL_1258 : decode code 1258 = .ok (.iconst 2, 1) := by decide +kernel
theorem dL_1259 : decode code 1259 = .ok (.iadd, 1) := by decide +kernel
theorem dL_1260 : decode code 1260 = .ok (.iaload, 1) := by decide +kernel
theorem dL_1261 : decode code 1261 = .ok (.invokevirtual 165, 3) := by decide +kernel
theorem dL_1264 : decode code 1264 = .ok (.aload_n 2, 1) := by decide +kernel
theorem dL_1265 : decode code 1265 = .ok (.aload_n 0, 1) := by decide +kernel
theorem dL_1266 : decode code 1266 = .ok (.iload_n 3, 1) := by decide +kernel
theorem dL_1267 : decode code 1267 = .ok (.iconst 1, 1) := by decide +kernel
theorem dL_1268 : decode code 1268 = .ok (.iadd, 1) := by decide +kernel
theorem dL_1269 : decode code 1269 = .ok (.iaload, 1) := by decide +kernel
theorem dL_1270 : decode code 1270 = .ok (.aload_n 0, 1) := by decide +kernel
theorem dL_1271 : decode code 1271 = .ok (.iload_n 3, 1) := by decide +kernel
theorem dL_1272 : decode code 1272 = .ok (.iconst 2, 1) := by decide +kernel
theorem dL_1273 : decode code 1273 = .ok (.iadd, 1) := by decide +kernel
theorem dL_1274 : decode code 1274 = .ok (.iaload, 1) := by decide +kernel
theorem dL_1275 : decode code 1275 = .ok (.invokevirtual 168, 3) := by decide +kernel
theorem dL_1278 : decode code 1278 = .ok (.if_icmp .eq 467, 3) := by decide +kernel
theorem dL_1281 : decode code 1281 = .ok (.iconst 0, 1) := by decide +kernel
theorem dL_1282 : decode code 1282 = .ok (.ireturn, 1) := by decide +kernel
theorem dL_1283 : decode code 1283 = .ok (.aload_n 1, 1) := by decide +kernel
theorem dL_1284 : decode code 1284 = .ok (.aload_n 0, 1) := by decide +kernel
theorem dL_1285 : decode code 1285 = .ok (.iload_n 3, 1) := by decide +kernel
theorem dL_1286 : decode code 1286 = .ok (.iconst 1, 1) := by decide +kernel
theorem dL_1287 : decode code 1287 = .ok (.iadd, 1) := by decide +kernel
theorem dL_1288 : decode code 1288 = .ok (.iaload, 1) := by decide +kernel
theorem dL_1289 : decode code 1289 = .ok (.aload_n 0, 1) := by decide +kernel
theorem dL_1290 : decode code 1290 = .ok (.iload_n 3, 1) := by decide +kernel
theorem dL_1291 : decode code 1291 = .ok (.iconst 2, 1) := by decide +kernel
theorem dL_1292 : decode code 1292 = .ok (.iadd, 1) := by decide +kernel
theorem dL_1293 : decode code 1293 = .ok (.iaload, 1) := by decide +kernel
theorem dL_1294 : decode code 1294 = .ok (.aload_n 0, 1) := by decide +kernel
theorem dL_1295 : decode code 1295 = .ok (.iload_n 3, 1) := by decide +kernel
theorem dL_1296 : decode code 1296 = .ok (.iconst 3, 1) := by decide +kernel
theorem dL_1297 : decode code 1297 = .ok (.iadd, 1) := by decide +kernel
theorem dL_1298 : decode code 1298 = .ok (.iaload, 1) := by decide +kernel
theorem dL_1299 : decode code 1299 = .ok (.invokevirtual 169, 3) := by decide +kernel
theorem dL_1302 : decode code 1302 = .ok (.aload_n 2, 1) := by decide +kernel
theorem dL_1303 : decode code 1303 = .ok (.aload_n 0, 1) := by decide +kernel
theorem dL_1304 : decode code 1304 = .ok (.iload_n 3, 1) := by decide +kernel
theorem dL_1305 : decode code 1305 = .ok (.iconst 1, 1) := by decide +kernel
theorem dL_1306 : decode code 1306 = .ok (.iadd, 1) := by decide +kernel
theorem dL_1307 : decode code 1307 = .ok (.iaload, 1) := by decide +kernel
theorem dL_1308 : decode code 1308 = .ok (.aload_n 0, 1) := by decide +kernel
theorem dL_1309 : decode code 1309 = .ok (.iload_n 3, 1) := by decide +kernel
theorem dL_1310 : decode code 1310 = .ok (.iconst 2, 1) := by decide +kernel
theorem dL_1311 : decode code 1311 = .ok (.iadd, 1) := by decide +kernel
theorem dL_1312 : decode code 1312 = .ok (.iaload, 1) := by decide +kernel
theorem dL_1313 : decode code 1313 = .ok (.aload_n 0, 1) := by decide +kernel
theorem dL_1314 : decode code 1314 = .ok (.iload_n 3, 1) := by decide +kernel
theorem dL_1315 : decode code 1315 = .ok (.iconst 3, 1) := by decide +kernel
theorem dL_1316 : decode code 1316 = .ok (.iadd, 1) := by decide +kernel
theorem dL_1317 : decode code 1317 = .ok (.iaload, 1) := by decide +kernel
theorem dL_1318 : decode code 1318 = .ok (.invokevirtual 172, 3) := by decide +kernel
theorem dL_1321 : decode code 1321 = .ok (.if_icmp .eq 424, 3) := by decide +kernel
theorem dL_1324 : decode code 1324 = .ok (.iconst 0, 1) := by decide +kernel
theorem dL_1325 : decode code 1325 = .ok (.ireturn, 1) := by decide +kernel
theorem dL_1326 : decode code 1326 = .ok (.aload_n 1, 1) := by decide +kernel
theorem dL_1327 : decode code 1327 = .ok (.invokevirtual 173, 3) := by decide +kernel
theorem dL_1330 : decode code 1330 = .ok (.aload_n 2, 1) := by decide +kernel
theorem dL_1331 : decode code 1331 = .ok (.invokevirtual 176, 3) := by decide +kernel
theorem dL_1334 : decode code 1334 = .ok (.if_icmp .eq 411, 3) := by decide +kernel
theorem dL_1337 : decode code 1337 = .ok (.iconst 0, 1) := by decide +kernel
theorem dL_1338 : decode code 1338 = .ok (.ireturn, 1) := by decide +kernel
theorem dL_1339 : decode code 1339 = .ok (.aload_n 1, 1) := by decide +kernel
theorem dL_1340 : decode code 1340 = .ok (.aload_n 0, 1) := by decide +kernel
theorem dL_1341 : decode code 1341 = .ok (.iload_n 3, 1) := by decide +kernel
theorem dL_1342 : decode code 1342 = .ok (.iconst 1, 1) := by decide +kernel
theorem dL_1343 : decode code 1343 = .ok (.iadd, 1) := by decide +kernel
theorem dL_1344 : decode code 1344 = .ok (.iaload, 1) := by decide +kernel
theorem dL_1345 : decode code 1345 = .ok (.aload_n 0, 1) := by decide +kernel
theorem dL_1346 : decode code 1346 = .ok (.iload_n 3, 1) := by decide +kernel
theorem dL_1347 : decode code 1347 = .ok (.iconst 2, 1) := by decide +kernel
theorem dL_1348 : decode code 1348 = .ok (.iadd, 1) := by decide +kernel
theorem dL_1349 : decode code 1349 = .ok (.iaload, 1) := by decide +kernel
theorem dL_1350 : decode code 1350 = .ok (.aload_n 0, 1) := by decide +kernel
theorem dL_1351 : decode code 1351 = .ok (.iload_n 3, 1) := by decide +kernel
theorem dL_1352 : decode code 1352 = .ok (.iconst 3, 1) := by decide +kernel
theorem dL_1353 : decode code 1353 = .ok (.iadd, 1) := by decide +kernel
theorem dL_1354 : decode code 1354 = .ok (.iaload, 1) := by decide +kernel
theorem dL_1355 : decode code 1355 = .ok (.invokevirtual 177, 3) := by decide +kernel
theorem dL_1358 : decode code 1358 = .ok (.aload_n 2, 1) := by decide +kernel
theorem dL_1359 : decode code 1359 = .ok (.aload_n 0, 1) := by decide +kernel
theorem dL_1360 : decode code 1360 = .ok (.iload_n 3, 1) := by decide +kernel
theorem dL_1361 : decode code 1361 = .ok (.iconst 1, 1) := by decide +kernel
theorem dL_1362 : decode code 1362 = .ok (.iadd, 1) := by decide +kernel
theorem dL_1363 : decode code 1363 = .ok (.iaload, 1) := by decide +kernel
theorem dL_1364 : decode code 1364 = .ok (.aload_n 0, 1) := by decide +kernel
theorem dL_1365 : decode code 1365 = .ok (.iload_n 3, 1) := by decide +kernel
theorem dL_1366 : decode code 1366 = .ok (.iconst 2, 1) := by decide +kernel
theorem dL_1367 : decode code 1367 = .ok (.iadd, 1) := by decide +kernel
theorem dL_1368 : decode code 1368 = .ok (.iaload, 1) := by decide +kernel
theorem dL_1369 : decode code 1369 = .ok (.aload_n 0, 1) := by decide +kernel
theorem dL_1370 : decode code 1370 = .ok (.iload_n 3, 1) := by decide +kernel
theorem dL_1371 : decode code 1371 = .ok (.iconst 3, 1) := by decide +kernel
theorem dL_1372 : decode code 1372 = .ok (.iadd, 1) := by decide +kernel
theorem dL_1373 : decode code 1373 = .ok (.iaload, 1) := by decide +kernel
theorem dL_1374 : decode code 1374 = .ok (.invokevirtual 180, 3) := by decide +kernel
theorem dL_1377 : decode code 1377 = .ok (.if_icmp .eq 368, 3) := by decide +kernel
theorem dL_1380 : decode code 1380 = .ok (.iconst 0, 1) := by decide +kernel
theorem dL_1381 : decode code 1381 = .ok (.ireturn, 1) := by decide +kernel
theorem dL_1382 : decode code 1382 = .ok (.aload_n 1, 1) := by decide +kernel
theorem dL_1383 : decode code 1383 = .ok (.aload_n 0, 1) := by decide +kernel
theorem dL_1384 : decode code 1384 = .ok (.iload_n 3, 1) := by decide +kernel
theorem dL_1385 : decode code 1385 = .ok (.iconst 1, 1) := by decide +kernel
theorem dL_1386 : decode code 1386 = .ok (.iadd, 1) := by decide +kernel
theorem dL_1387 : decode code 1387 = .ok (.iaload, 1) := by decide +kernel
theorem dL_1388 : decode code 1388 = .ok (.aload_n 0, 1) := by decide +kernel
theorem dL_1389 : decode code 1389 = .ok (.iload_n 3, 1) := by decide +kernel
theorem dL_1390 : decode code 1390 = .ok (.iconst 2, 1) := by decide +kernel
theorem dL_1391 : decode code 1391 = .ok (.iadd, 1) := by decide +kernel
theorem dL_1392 : decode code 1392 = .ok (.iaload, 1) := by decide +kernel
theorem dL_1393 : decode code 1393 = .ok (.aload_n 0, 1) := by decide +kernel
theorem dL_1394 : decode code 1394 = .ok (.iload_n 3, 1) := by decide +kernel
theorem dL_1395 : decode code 1395 = .ok (.iconst 3, 1) := by decide +kernel
theorem dL_1396 : decode code 1396 = .ok (.iadd, 1) := by decide +kernel
theorem dL_1397 : decode code 1397 = .ok (.iaload, 1) := by decide +kernel
theorem dL_1398 : decode code 1398 = .ok (.invokevirtual 181, 3) := by decide +kernel
theorem dL_1401 : decode code 1401 = .ok (.aload_n 2, 1) := by decide +kernel
theorem dL_1402 : decode code 1402 = .ok (.aload_n 0, 1) := by decide +kernel
theorem dL_1403 : decode code 1403 = .ok (.iload_n 3, 1) := by decide +kernel
theorem dL_1404 : decode code 1404 = .ok (.iconst 1, 1) := by decide +kernel
theorem dL_1405 : decode code 1405 = .ok (.iadd, 1) := by decide +kernel
theorem dL_1406 : decode code 1406 = .ok (.iaload, 1) := by decide +kernel
theorem dL_1407 : decode code 1407 = .ok (.aload_n 0, 1) := by decide +kernel
theorem dL_1408 : decode code 1408 = .ok (.iload_n 3, 1) := by decide +kernel
theorem dL_1409 : decode code 1409 = .ok (.iconst 2, 1) := by decide +kernel
theorem dL_1410 : decode code 1410 = .ok (.iadd, 1) := by decide +kernel
theorem dL_1411 : decode code 1411 = .ok (.iaload, 1) := by decide +kernel
theorem dL_1412 : decode code 1412 = .ok (.aload_n 0, 1) := by decide +kernel
theorem dL_1413 : decode code 1413 = .ok (.iload_n 3, 1) := by decide +kernel
theorem dL_1414 : decode code 1414 = .ok (.iconst 3, 1) := by decide +kernel
theorem dL_1415 : decode code 1415 = .ok (.iadd, 1) := by decide +kernel
theorem dL_1416 : decode code 1416 = .ok (.iaload, 1) := by decide +kernel
theorem dL_1417 : decode code 1417 = .ok (.invokevirtual 184, 3) := by decide +kernel
theorem dL_1420 : decode code 1420 = .ok (.if_icmp .eq 325, 3) := by decide +kernel
theorem dL_1423 : decode code 1423 = .ok (.iconst 0, 1) := by decide +kernel
theorem dL_1424 : decode code 1424 = .ok (.ireturn, 1) := by decide +kernel
theorem dL_1425 : decode code 1425 = .ok (.aload_n 1, 1) := by decide +kernel
theorem dL_1426 : decode code 1426 = .ok (.aload_n 0, 1) := by decide +kernel
theorem dL_1427 : decode code 1427 = .ok (.iload_n 3, 1) := by decide +kernel
theorem dL_1428 : decode code 1428 = .ok (.iconst 1, 1) := by decide +kernel
theorem dL_1429 : decode code 1429 = .ok (.iadd, 1) := by decide +kernel
theorem dL_1430 : decode code 1430 = .ok (.iaload, 1) := by decide +kernel
theorem dL_1431 : decode code 1431 = .ok (.aload_n 0, 1) := by decide +kernel
theorem dL_1432 : decode code 1432 = .ok (.iload_n 3, 1) := by decide +kernel
theorem dL_1433 : decode code 1433 = .ok (.iconst 2, 1) := by decide +kernel
theorem dL_1434 : decode code 1434 = .ok (.iadd, 1) := by decide +kernel
theorem dL_1435 : decode code 1435 = .ok (.iaload, 1) := by decide +kernel
theorem dL_1436 : decode code 1436 = .ok (.aload_n 0, 1) := by decide +kernel
theorem dL_1437 : decode code 1437 = .ok (.iload_n 3, 1) := by decide +kernel
theorem dL_1438 : decode code 1438 = .ok (.iconst 3, 1) := by decide +kernel
theorem dL_1439 : decode code 1439 = .ok (.iadd, 1) := by decide +kernel
theorem dL_1440 : decode code 1440 = .ok (.iaload, 1) := by decide +kernel
theorem dL_1441 : decode code 1441 = .ok (.invokevirtual 185, 3) := by decide +kernel
theorem dL_1444 : decode code 1444 = .ok (.aload_n 2, 1) := by decide +kernel
theorem dL_1445 : decode code 1445 = .ok (.aload_n 0, 1) := by decide +kernel
theorem dL_1446 : decode code 1446 = .ok (.iload_n 3, 1) := by decide +kernel
theorem dL_1447 : decode code 1447 = .ok (.iconst 1, 1) := by decide +kernel
theorem dL_1448 : decode code 1448 = .ok (.iadd, 1) := by decide +kernel
theorem dL_1449 : decode code 1449 = .ok (.iaload, 1) := by decide +kernel
theorem dL_1450 : decode code 1450 = .ok (.aload_n 0, 1) := by decide +kernel
theorem dL_1451 : decode code 1451 = .ok (.iload_n 3, 1) := by decide +kernel
theorem dL_1452 : decode code 1452 = .ok (.iconst 2, 1) := by decide +kernel
theorem dL_1453 : decode code 1453 = .ok (.iadd, 1) := by decide +kernel
theorem dL_1454 : decode code 1454 = .ok (.iaload, 1) := by decide +kernel
theorem dL_1455 : decode code 1455 = .ok (.aload_n 0, 1) := by decide +kernel
theorem dL_1456 : decode code 1456 = .ok (.iload_n 3, 1) := by decide +kernel
theorem dL_1457 : decode code 1457 = .ok (.iconst 3, 1) := by decide +kernel
theorem dL_1458 : decode code 1458 = .ok (.iadd, 1) := by decide +kernel
theorem dL_1459 : decode code 1459 = .ok (.iaload, 1) := by decide +kernel
theorem dL_1460 : decode code 1460 = .ok (.invokevirtual 188, 3) := by decide +kernel
theorem dL_1463 : decode code 1463 = .ok (.if_icmp .eq 282, 3) := by decide +kernel
theorem dL_1466 : decode code 1466 = .ok (.iconst 0, 1) := by decide +kernel
theorem dL_1467 : decode code 1467 = .ok (.ireturn, 1) := by decide +kernel
theorem dL_1468 : decode code 1468 = .ok (.aload_n 1, 1) := by decide +kernel
theorem dL_1469 : decode code 1469 = .ok (.aload_n 0, 1) := by decide +kernel
theorem dL_1470 : decode code 1470 = .ok (.iload_n 3, 1) := by decide +kernel
theorem dL_1471 : decode code 1471 = .ok (.iconst 1, 1) := by decide +kernel
theorem dL_1472 : decode code 1472 = .ok (.iadd, 1) := by decide +kernel
theorem dL_1473 : decode code 1473 = .ok (.iaload, 1) := by decide +kernel
theorem dL_1474 : decode code 1474 = .ok (.aload_n 0, 1) := by decide +kernel
theorem dL_1475 : decode code 1475 = .ok (.iload_n 3, 1) := by decide +kernel
theorem dL_1476 : decode code 1476 = .ok (.iconst 2, 1) := by decide +kernel
theorem dL_1477 : decode code 1477 = .ok (.iadd, 1) := by decide +kernel
theorem dL_1478 : decode code 1478 = .ok (.iaload, 1) := by decide +kernel
theorem dL_1479 : decode code 1479 = .ok (.aload_n 0, 1) := by decide +kernel
theorem dL_1480 : decode code 1480 = .ok (.iload_n 3, 1) := by decide +kernel
theorem dL_1481 : decode code 1481 = .ok (.iconst 3, 1) := by decide +kernel
theorem dL_1482 : decode code 1482 = .ok (.iadd, 1) := by decide +kernel
theorem dL_1483 : decode code 1483 = .ok (.iaload, 1) := by decide +kernel
theorem dL_1484 : decode code 1484 = .ok (.invokevirtual 189, 3) := by decide +kernel
theorem dL_1487 : decode code 1487 = .ok (.aload_n 2, 1) := by decide +kernel
theorem dL_1488 : decode code 1488 = .ok (.aload_n 0, 1) := by decide +kernel
theorem dL_1489 : decode code 1489 = .ok (.iload_n 3, 1) := by decide +kernel
theorem dL_1490 : decode code 1490 = .ok (.iconst 1, 1) := by decide +kernel
theorem dL_1491 : decode code 1491 = .ok (.iadd, 1) := by decide +kernel
theorem dL_1492 : decode code 1492 = .ok (.iaload, 1) := by decide +kernel
theorem dL_1493 : decode code 1493 = .ok (.aload_n 0, 1) := by decide +kernel
theorem dL_1494 : decode code 1494 = .ok (.iload_n 3, 1) := by decide +kernel
theorem dL_1495 : decode code 1495 = .ok (.iconst 2, 1) := by decide +kernel
theorem dL_1496 : decode code 1496 = .ok (.iadd, 1) := by decide +kernel
theorem dL_1497 : decode code 1497 = .ok (.iaload, 1) := by decide +kernel
theorem dL_1498 : decode code 1498 = .ok (.aload_n 0, 1) := by decide +kernel
theorem dL_1499 : decode code 1499 = .ok (.iload_n 3, 1) := by decide +kernel
theorem dL_1500 : decode code 1500 = .ok (.iconst 3, 1) := by decide +kernel
theorem dL_1501 : decode code 1501 = .ok (.iadd, 1) := by decide +kernel
theorem dL_1502 : decode code 1502 = .ok (.iaload, 1) := by decide +kernel
theorem dL_1503 : decode code 1503 = .ok (.invokevirtual 192, 3) := by decide +kernel
theorem dL_1506 : decode code 1506 = .ok (.if_icmp .eq 239, 3) := by decide +kernel
theorem dL_1509 : decode code 1509 = .ok (.iconst 0, 1) := by decide +kernel
theorem dL_1510 : decode code 1510 = .ok (.ireturn, 1) := by decide +kernel
theorem dL_1511 : decode code 1511 = .ok (.aload_n 1, 1) := by decide +kernel
theorem dL_1512 : decode code 1512 = .ok (.aload_n 0, 1) := by decide +kernel
theorem dL_1513 : decode code 1513 = .ok (.iload_n 3, 1) := by decide +kernel
theorem dL_1514 : decode code 1514 = .ok (.iconst 1, 1) := by decide +kernel
theorem dL_1515 : decode code 1515 = .ok (.iadd, 1) := by decide +kernel
theorem dL_1516 : decode code 1516 = .ok (.iaload, 1) := by decide +kernel
theorem dL_1517 : decode code 1517 = .ok (.aload_n 0, 1) := by decide +kernel
theorem dL_1518 : decode code 1518 = .ok (.iload_n 3, 1) := by decide +kernel
theorem dL_1519 : decode code 1519 = .ok (.iconst 2, 1) := by decide +kernel
theorem dL_1520 : decode code 1520 = .ok (.iadd, 1) := by decide +kernel
theorem dL_1521 : decode code 1521 = .ok (.iaload, 1) := by decide +kernel
theorem dL_1522 : decode code 1522 = .ok (.aload_n 0, 1) := by decide +kernel
theorem dL_1523 : decode code 1523 = .ok (.iload_n 3, 1) := by decide +kernel
theorem dL_1524 : decode code 1524 = .ok (.iconst 3, 1) := by decide +kernel
theorem dL_1525 : decode code 1525 = .ok (.iadd, 1) := by decide +kernel
theorem dL_1526 : decode code 1526 = .ok (.iaload, 1) := by decide +kernel
theorem dL_1527 : decode code 1527 = .ok (.invokevirtual 193, 3) := by decide +kernel
theorem dL_1530 : decode code 1530 = .ok (.aload_n 2, 1) := by decide +kernel
theorem dL_1531 : decode code 1531 = .ok (.aload_n 0, 1) := by decide +kernel
theorem dL_1532 : decode code 1532 = .ok (.iload_n 3, 1) := by decide +kernel
theorem dL_1533 : decode code 1533 = .ok (.iconst 1, 1) := by decide +kernel
theorem dL_1534 : decode code 1534 = .ok (.iadd, 1) := by decide +kernel
theorem dL_1535 : decode code 1535 = .ok (.iaload, 1) := by decide +kernel
theorem dL_1536 : decode code 1536 = .ok (.aload_n 0, 1) := by decide +kernel
theorem dL_1537 : decode code 1537 = .ok (.iload_n 3, 1) := by decide +kernel
theorem dL_1538 : decode code 1538 = .ok (.iconst 2, 1) := by decide +kernel
theorem dL_1539 : decode code 1539 = .ok (.iadd, 1) := by decide +kernel
theorem dL_1540 : decode code 1540 = .ok (.iaload, 1) := by decide +kernel
theorem dL_1541 : decode code 1541 = .ok (.aload_n 0, 1) := by decide +kernel
theorem dL_1542 : decode code 1542 = .ok (.iload_n 3, 1) := by decide +kernel
theorem dL_1543 : decode code 1543 = .ok (.iconst 3, 1) := by decide +kernel
theorem dL_1544 : decode code 1544 = .ok (.iadd, 1) := by decide +kernel
theorem dL_1545 : decode code 1545 = .ok (.iaload, 1) := by decide +kernel
theorem dL_1546 : decode code 1546 = .ok (.invokevirtual 196, 3) := by decide +kernel
theorem dL_1549 : decode code 1549 = .ok (.if_icmp .eq 196, 3) := by decide +kernel
theorem dL_1552 : decode code 1552 = .ok (.iconst 0, 1) := by decide +kernel
theorem dL_1553 : decode code 1553 = .ok (.ireturn, 1) := by decide +kernel
theorem dL_1554 : decode code 1554 = .ok (.aload_n 1, 1) := by decide +kernel
theorem dL_1555 : decode code 1555 = .ok (.aload_n 0, 1) := by decide +kernel
theorem dL_1556 : decode code 1556 = .ok (.iload_n 3, 1) := by decide +kernel
theorem dL_1557 : decode code 1557 = .ok (.iconst 1, 1) := by decide +kernel
theorem dL_1558 : decode code 1558 = .ok (.iadd, 1) := by decide +kernel
theorem dL_1559 : decode code 1559 = .ok (.iaload, 1) := by decide +kernel
theorem dL_1560 : decode code 1560 = .ok (.aload_n 0, 1) := by decide +kernel
theorem dL_1561 : decode code 1561 = .ok (.iload_n 3, 1) := by decide +kernel
theorem dL_1562 : decode code 1562 = .ok (.iconst 2, 1) := by decide +kernel
theorem dL_1563 : decode code 1563 = .ok (.iadd, 1) := by decide +kernel
theorem dL_1564 : decode code 1564 = .ok (.iaload, 1) := by decide +kernel
theorem dL_1565 : decode code 1565 = .ok (.aload_n 0, 1) := by decide +kernel
theorem dL_1566 : decode code 1566 = .ok (.iload_n 3, 1) := by decide +kernel
theorem dL_1567 : decode code 1567 = .ok (.iconst 3, 1) := by decide +kernel
theorem dL_1568 : decode code 1568 = .ok (.iadd, 1) := by decide +kernel
theorem dL_1569 : decode code 1569 = .ok (.iaload, 1) := by decide +kernel
theorem dL_1570 : decode code 1570 = .ok (.invokevirtual 197, 3) := by decide +kernel
theorem dL_1573 : decode code 1573 = .ok (.aload_n 2, 1) := by decide +kernel
theorem dL_1574 : decode code 1574 = .ok (.aload_n 0, 1) := by decide +kernel
theorem dL_1575 : decode code 1575 = .ok (.iload_n 3, 1) := by decide +kernel
theorem dL_1576 : decode code 1576 = .ok (.iconst 1, 1) := by decide +kernel
theorem dL_1577 : decode code 1577 = .ok (.iadd, 1) := by decide +kernel
theorem dL_1578 : decode code 1578 = .ok (.iaload, 1) := by decide +kernel
theorem dL_1579 : decode code 1579 = .ok (.aload_n 0, 1) := by decide +kernel
theorem dL_1580 : decode code 1580 = .ok (.iload_n 3, 1) := by decide +kernel
theorem dL_1581 : decode code 1581 = .ok (.iconst 2, 1) := by decide +kernel
theorem dL_1582 : decode code 1582 = .ok (.iadd, 1) := by decide +kernel
theorem dL_1583 : decode code 1583 = .ok (.iaload, 1) := by decide +kernel
theorem dL_1584 : decode code 1584 = .ok (.aload_n 0, 1) := by decide +kernel
theorem dL_1585 : decode code 1585 = .ok (.iload_n 3, 1) := by decide +kernel
theorem dL_1586 : decode code 1586 = .ok (.iconst 3, 1) := by decide +kernel
theorem dL_1587 : decode code 1587 = .ok (.iadd, 1) := by decide +kernel
theorem dL_1588 : decode code 1588 = .ok (.iaload, 1) := by decide +kernel
theorem dL_1589 : decode code 1589 = .ok (.invokevirtual 200, 3) := by decide +kernel
theorem dL_1592 : decode code 1592 = .ok (.if_icmp .eq 153, 3) := by decide +kernel
theorem dL_1595 : decode code 1595 = .ok (.iconst 0, 1) := by decide +kernel
theorem dL_1596 : decode code 1596 = .ok (.ireturn, 1) := by decide +kernel
theorem dL_1597 : decode code 1597 = .ok (.aload_n 1, 1) := by decide +kernel
theorem dL_1598 : decode code 1598 = .ok (.aload_n 0, 1) := by decide +kernel
theorem dL_1599 : decode code 1599 = .ok (.iload_n 3, 1) := by decide +kernel
theorem dL_1600 : decode code 1600 = .ok (.iconst 1, 1) := by decide +kernel
theorem dL_1601 : decode code 1601 = .ok (.iadd, 1) := by decide +kernel
theorem dL_1602 : decode code 1602 = .ok (.iaload, 1) := by decide +kernel
theorem dL_1603 : decode code 1603 = .ok (.aload_n 0, 1) := by decide +kernel
theorem dL_1604 : decode code 1604 = .ok (.iload_n 3, 1) := by decide +kernel
theorem dL_1605 : decode code 1605 = .ok (.iconst 2, 1) := by decide +kernel
theorem dL_1606 : decode code 1606 = .ok (.iadd, 1) := by decide +kernel
theorem dL_1607 : decode code 1607 = .ok (.iaload, 1) := by decide +kernel
theorem dL_1608 : decode code 1608 = .ok (.invokevirtual 201, 3) := by decide +kernel
theorem dL_1611 : decode code 1611 = .ok (.aload_n 2, 1) := by decide +kernel
theorem dL_1612 : decode code 1612 = .ok (.aload_n 0, 1) := by decide +kernel
theorem dL_1613 : decode code 1613 = .ok (.iload_n 3, 1) := by decide +kernel
theorem dL_1614 : decode code 1614 = .ok (.iconst 1, 1) := by decide +kernel
theorem dL_1615 : decode code 1615 = .ok (.iadd, 1) := by decide +kernel
theorem dL_1616 : decode code 1616 = .ok (.iaload, 1) := by decide +kernel
theorem dL_1617 : decode code 1617 = .ok (.aload_n 0, 1) := by decide +kernel
theorem dL_1618 : decode code 1618 = .ok (.iload_n 3, 1) := by decide +kernel
theorem dL_1619 : decode code 1619 = .ok (.iconst 2, 1) := by decide +kernel
theorem dL_1620 : decode code 1620 = .ok (.iadd, 1) := by decide +kernel
theorem dL_1621 : decode code 1621 = .ok (.iaload, 1) := by decide +kernel
theorem dL_1622 : decode code 1622 = .ok (.invokevirtual 204, 3) := by decide +kernel
theorem dL_1625 : decode code 1625 = .ok (.if_icmp .eq 120, 3) := by decide +kernel
theorem dL_1628 : decode code 1628 = .ok (.iconst 0, 1) := by decide +kernel
theorem dL_1629 : decode code 1629 = .ok (.ireturn, 1) := by decide +kernel
theorem dL_1630 : decode code 1630 = .ok (.aload_n 1, 1) := by decide +kernel
theorem dL_1631 : decode code 1631 = .ok (.aload_n 0, 1) := by decide +kernel
theorem dL_1632 : decode code 1632 = .ok (.iload_n 3, 1) := by decide +kernel
theorem dL_1633 : decode code 1633 = .ok (.iconst 1, 1) := by decide +kernel
theorem dL_1634 : decode code 1634 = .ok (.iadd, 1) := by decide +kernel
theorem dL_1635 : decode code 1635 = .ok (.iaload, 1) := by decide +kernel
theorem dL_1636 : decode code 1636 = .ok (.aload_n 0, 1) := by decide +kernel
theorem dL_1637 : decode code 1637 = .ok (.iload_n 3, 1) := by decide +kernel
theorem dL_1638 : decode code 1638 = .ok (.iconst 2, 1) := by decide +kernel
theorem dL_1639 : decode code 1639 = .ok (.iadd, 1) := by decide +kernel
theorem dL_1640 : decode code 1640 = .ok (.iaload, 1) := by decide +kernel
theorem dL_1641 : decode code 1641 = .ok (.aload_n 0, 1) := by decide +kernel
theorem dL_1642 : decode code 1642 = .ok (.iload_n 3, 1) := by decide +kernel
theorem dL_1643 : decode code 1643 = .ok (.iconst 3, 1) := by decide +kernel
theorem dL_1644 : decode code 1644 = .ok (.iadd, 1) := by decide +kernel
theorem dL_1645 : decode code 1645 = .ok (.iaload, 1) := by decide +kernel
theorem dL_1646 : decode code 1646 = .ok (.invokevirtual 205, 3) := by decide +kernel
theorem dL_1649 : decode code 1649 = .ok (.aload_n 2, 1) := by decide +kernel
theorem dL_1650 : decode code 1650 = .ok (.aload_n 0, 1) := by decide +kernel
theorem dL_1651 : decode code 1651 = .ok (.iload_n 3, 1) := by decide +kernel
theorem dL_1652 : decode code 1652 = .ok (.iconst 1, 1) := by decide +kernel
theorem dL_1653 : decode code 1653 = .ok (.iadd, 1) := by decide +kernel
theorem dL_1654 : decode code 1654 = .ok (.iaload, 1) := by decide +kernel
theorem dL_1655 : decode code 1655 = .ok (.aload_n 0, 1) := by decide +kernel
theorem dL_1656 : decode code 1656 = .ok (.iload_n 3, 1) := by decide +kernel
theorem dL_1657 : decode code 1657 = .ok (.iconst 2, 1) := by decide +kernel
theorem dL_1658 : decode code 1658 = .ok (.iadd, 1) := by decide +kernel
theorem dL_1659 : decode code 1659 = .ok (.iaload, 1) := by decide +kernel
theorem dL_1660 : decode code 1660 = .ok (.aload_n 0, 1) := by decide +kernel
theorem dL_1661 : decode code 1661 = .ok (.iload_n 3, 1) := by decide +kernel
theorem dL_1662 : decode code 1662 = .ok (.iconst 3, 1) := by decide +kernel
theorem dL_1663 : decode code 1663 = .ok (.iadd, 1) := by decide +kernel
theorem dL_1664 : decode code 1664 = .ok (.iaload, 1) := by decide +kernel
theorem dL_1665 : decode code 1665 = .ok (.invokevirtual 208, 3) := by decide +kernel
theorem dL_1668 : decode code 1668 = .ok (.if_icmp .eq 77, 3) := by decide +kernel
theorem dL_1671 : decode code 1671 = .ok (.iconst 0, 1) := by decide +kernel
theorem dL_1672 : decode code 1672 = .ok (.ireturn, 1) := by decide +kernel
theorem dL_1673 : decode code 1673 = .ok (.aload_n 1, 1) := by decide +kernel
theorem dL_1674 : decode code 1674 = .ok (.aload_n 0, 1) := by decide +kernel
theorem dL_1675 : decode code 1675 = .ok (.iload_n 3, 1) := by decide +kernel
theorem dL_1676 : decode code 1676 = .ok (.iconst 1, 1) := by decide +kernel
theorem dL_1677 : decode code 1677 = .ok (.iadd, 1) := by decide +kernel
theorem dL_1678 : decode code 1678 = .ok (.iaload, 1) := by decide +kernel
theorem dL_1679 : decode code 1679 = .ok (.invokevirtual 209, 3) := by decide +kernel
theorem dL_1682 : decode code 1682 = .ok (.aload_n 2, 1) := by decide +kernel
theorem dL_1683 : decode code 1683 = .ok (.aload_n 0, 1) := by decide +kernel
theorem dL_1684 : decode code 1684 = .ok (.iload_n 3, 1) := by decide +kernel
theorem dL_1685 : decode code 1685 = .ok (.iconst 1, 1) := by decide +kernel
theorem dL_1686 : decode code 1686 = .ok (.iadd, 1) := by decide +kernel
theorem dL_1687 : decode code 1687 = .ok (.iaload, 1) := by decide +kernel
theorem dL_1688 : decode code 1688 = .ok (.invokevirtual 212, 3) := by decide +kernel
theorem dL_1691 : decode code 1691 = .ok (.if_icmp .eq 54, 3) := by decide +kernel
theorem dL_1694 : decode code 1694 = .ok (.iconst 0, 1) := by decide +kernel
theorem dL_1695 : decode code 1695 = .ok (.ireturn, 1) := by decide +kernel
theorem dL_1696 : decode code 1696 = .ok (.aload_n 1, 1) := by decide +kernel
theorem dL_1697 : decode code 1697 = .ok (.aload_n 0, 1) := by decide +kernel
theorem dL_1698 : decode code 1698 = .ok (.iload_n 3, 1) := by decide +kernel
theorem dL_1699 : decode code 1699 = .ok (.iconst 1, 1) := by decide +kernel
theorem dL_1700 : decode code 1700 = .ok (.iadd, 1) := by decide +kernel
theorem dL_1701 : decode code 1701 = .ok (.iaload, 1) := by decide +kernel
theorem dL_1702 : decode code 1702 = .ok (.invokevirtual 213, 3) := by decide +kernel
theorem dL_1705 : decode code 1705 = .ok (.aload_n 2, 1) := by decide +kernel
theorem dL_1706 : decode code 1706 = .ok (.aload_n 0, 1) := by decide +kernel
theorem dL_1707 : decode code 1707 = .ok (.iload_n 3, 1) := by decide +kernel
theorem dL_1708 : decode code 1708 = .ok (.iconst 1, 1) := by decide +kernel
theorem dL_1709 : decode code 1709 = .ok (.iadd, 1) := by decide +kernel
theorem dL_1710 : decode code 1710 = .ok (.iaload, 1) := by decide +kernel
theorem dL_1711 : decode code 1711 = .ok (.invokevirtual 216, 3) := by decide +kernel
theorem dL_1714 : decode code 1714 = .ok (.if_icmp .eq 31, 3) := by decide +kernel
theorem dL_1717 : decode code 1717 = .ok (.iconst 0, 1) := by decide +kernel
theorem dL_1718 : decode code 1718 = .ok (.ireturn, 1) := by decide +kernel
theorem dL_1719 : decode code 1719 = .ok (.aload_n 1, 1) := by decide +kernel
theorem dL_1720 : decode code 1720 = .ok (.invokevirtual 217, 3) := by decide +kernel
theorem dL_1723 : decode code 1723 = .ok (.aload_n 2, 1) := by decide +kernel
theorem dL_1724 : decode code 1724 = .ok (.invokevirtual 220, 3) := by decide +kernel
theorem dL_1727 : decode code 1727 = .ok (.if_icmp .eq 18, 3) := by decide +kernel
theorem dL_1730 : decode code 1730 = .ok (.iconst 0, 1) := by decide +kernel
theorem dL_1731 : decode code 1731 = .ok (.ireturn, 1) := by decide +kernel
theorem dL_1732 : decode code 1732 = .ok (.aload_n 1, 1) := by decide +kernel
theorem dL_1733 : decode code 1733 = .ok (.invokevirtual 221, 3) := by decide +kernel
theorem dL_1736 : decode code 1736 = .ok (.aload_n 2, 1) := by decide +kernel
theorem dL_1737 : decode code 1737 = .ok (.invokevirtual 224, 3) := by decide +kernel
theorem dL_1740 : decode code 1740 = .ok (.if_icmp .eq 5, 3) := by decide +kernel
theorem dL_1743 : decode code 1743 = .ok (.iconst 0, 1) := by decide +kernel
theorem dL_1744 : decode code 1744 = .ok (.ireturn, 1) := by decide +kernel
theorem dL_1745 : decode code 1745 = .ok (.iinc 3 5, 3) := by decide +kernel
theorem dL_1748 : decode code 1748 = .ok (.goto (-1730), 3) := by decide +kernel
theorem dL_1751 : decode code 1751 = .ok (.iconst 1, 1) := by decide +kernel
theorem dL_1752 : decode code 1752 = .ok (.ireturn, 1) := by decide +kernel
theorem wl_0 : Cond.code yX11_key cX11_key 6 (some .int) ∈ gBIG := gm_at (l := tables_1_2) 99 (by decide +kernel) gs2
theorem wl_1 : Cond.initialized RX11 ∈ gBIG := gm_at (l := tables_1_1) 1 (by decide +kernel) gs1
theorem wl_2 : Cond.methodLink R_law 13 yX11_key ∈ gBIG := gm_at (l := tables_1_2) 96 (by decide +kernel) gs2
theorem wl_3 : Cond.instanceMethod yX11_key ∈ gBIG := gm_at (l := tables_1_2) 97 (by decide +kernel) gs2
theorem wl_4 : Cond.selects RX11 yX11_key yX11_key ∈ gBIG := gm_at (l := tables_1_2) 98 (by decide +kernel) gs2
theorem wl_5 : Cond.code yX12_key cX12_key 6 (some .int) ∈ gBIG := gm_at (l := tables_1_6) 118 (by decide +kernel) gs6
theorem wl_6 : Cond.initialized RX12 ∈ gBIG := gm_at (l := tables_1_1) 13 (by decide +kernel) gs1
theorem wl_7 : Cond.methodLink R_law 17 yX12_key ∈ gBIG := gm_at (l := tables_1_6) 115 (by decide +kernel) gs6
theorem wl_8 : Cond.instanceMethod yX12_key ∈ gBIG := gm_at (l := tables_1_6) 116 (by decide +kernel) gs6
theorem wl_9 : Cond.selects RX12 yX12_key yX12_key ∈ gBIG := gm_at (l := tables_1_6) 117 (by decide +kernel) gs6
theorem wl_10 : Cond.code yX11_keyOf cX11_keyOf 3 (some .int) ∈ gBIG := gm_at (l := tables_1_2) 112 (by decide +kernel) gs2
theorem wl_11 : Cond.methodLink R_law 18 yX11_keyOf ∈ gBIG := gm_at (l := tables_1_2) 109 (by decide +kernel) gs2
theorem wl_12 : Cond.instanceMethod yX11_keyOf ∈ gBIG := gm_at (l := tables_1_2) 110 (by decide +kernel) gs2
theorem wl_13 : Cond.selects RX11 yX11_keyOf yX11_keyOf ∈ gBIG := gm_at (l := tables_1_2) 111 (by decide +kernel) gs2
theorem wl_14 : Cond.code yX12_keyOf cX12_keyOf 3 (some .int) ∈ gBIG := gm_at (l := tables_1_6) 132 (by decide +kernel) gs6
theorem wl_15 : Cond.methodLink R_law 22 yX12_keyOf ∈ gBIG := gm_at (l := tables_1_6) 129 (by decide +kernel) gs6
theorem wl_16 : Cond.instanceMethod yX12_keyOf ∈ gBIG := gm_at (l := tables_1_6) 130 (by decide +kernel) gs6
theorem wl_17 : Cond.selects RX12 yX12_keyOf yX12_keyOf ∈ gBIG := gm_at (l := tables_1_6) 131 (by decide +kernel) gs6
theorem wl_18 : Cond.code yX11_change cX11_change 4 (some .int) ∈ gBIG := gm_at (l := tables_1_3) 2 (by decide +kernel) gs3
theorem wl_19 : Cond.methodLink R_law 23 yX11_change ∈ gBIG := gm_at (l := tables_1_2) 239 (by decide +kernel) gs2
theorem wl_20 : Cond.instanceMethod yX11_change ∈ gBIG := gm_at (l := tables_1_3) 0 (by decide +kernel) gs3
theorem wl_21 : Cond.selects RX11 yX11_change yX11_change ∈ gBIG := gm_at (l := tables_1_3) 1 (by decide +kernel) gs3
theorem wl_22 : Cond.code yX12_change cX12_change 5 (some .int) ∈ gBIG := gm_at (l := tables_1_6) 202 (by decide +kernel) gs6
theorem wl_23 : Cond.methodLink R_law 27 yX12_change ∈ gBIG := gm_at (l := tables_1_6) 199 (by decide +kernel) gs6
theorem wl_24 : Cond.instanceMethod yX12_change ∈ gBIG := gm_at (l := tables_1_6) 200 (by decide +kernel) gs6
theorem wl_25 : Cond.selects RX12 yX12_change yX12_change ∈ gBIG := gm_at (l := tables_1_6) 201 (by decide +kernel) gs6
theorem wl_26 : Cond.code yX11_remake cX11_remake 4 (some .int) ∈ gBIG := gm_at (l := tables_1_3) 17 (by decide +kernel) gs3
theorem wl_27 : Cond.methodLink R_law 28 yX11_remake ∈ gBIG := gm_at (l := tables_1_3) 14 (by decide +kernel) gs3
theorem wl_28 : Cond.instanceMethod yX11_remake ∈ gBIG := gm_at (l := tables_1_3) 15 (by decide +kernel) gs3
theorem wl_29 : Cond.selects RX11 yX11_remake yX11_remake ∈ gBIG := gm_at (l := tables_1_3) 16 (by decide +kernel) gs3
theorem wl_30 : Cond.code yX12_remake cX12_remake 3 (some .int) ∈ gBIG := gm_at (l := tables_1_6) 210 (by decide +kernel) gs6
theorem wl_31 : Cond.methodLink R_law 31 yX12_remake ∈ gBIG := gm_at (l := tables_1_6) 207 (by decide +kernel) gs6
theorem wl_32 : Cond.instanceMethod yX12_remake ∈ gBIG := gm_at (l := tables_1_6) 208 (by decide +kernel) gs6
theorem wl_33 : Cond.selects RX12 yX12_remake yX12_remake ∈ gBIG := gm_at (l := tables_1_6) 209 (by decide +kernel) gs6
theorem wl_34 : Cond.code yX11_sun cX11_sun 3 (some .int) ∈ gBIG := gm_at (l := tables_1_3) 21 (by decide +kernel) gs3
theorem wl_35 : Cond.methodLink R_law 32 yX11_sun ∈ gBIG := gm_at (l := tables_1_3) 18 (by decide +kernel) gs3
theorem wl_36 : Cond.instanceMethod yX11_sun ∈ gBIG := gm_at (l := tables_1_3) 19 (by decide +kernel) gs3
theorem wl_37 : Cond.selects RX11 yX11_sun yX11_sun ∈ gBIG := gm_at (l := tables_1_3) 20 (by decide +kernel) gs3
theorem wl_38 : Cond.code yX12_sun cX12_sun 3 (some .int) ∈ gBIG := gm_at (l := tables_1_6) 214 (by decide +kernel) gs6
theorem wl_39 : Cond.methodLink R_law 35 yX12_sun ∈ gBIG := gm_at (l := tables_1_6) 211 (by decide +kernel) gs6
theorem wl_40 : Cond.instanceMethod yX12_sun ∈ gBIG := gm_at (l := tables_1_6) 212 (by decide +kernel) gs6
theorem wl_41 : Cond.selects RX12 yX12_sun yX12_sun ∈ gBIG := gm_at (l := tables_1_6) 213 (by decide +kernel) gs6
theorem wl_42 : Cond.code yX11_gate cX11_gate 4 (some .int) ∈ gBIG := gm_at (l := tables_1_3) 25 (by decide +kernel) gs3
theorem wl_43 : Cond.methodLink R_law 36 yX11_gate ∈ gBIG := gm_at (l := tables_1_3) 22 (by decide +kernel) gs3
theorem wl_44 : Cond.instanceMethod yX11_gate ∈ gBIG := gm_at (l := tables_1_3) 23 (by decide +kernel) gs3
theorem wl_45 : Cond.selects RX11 yX11_gate yX11_gate ∈ gBIG := gm_at (l := tables_1_3) 24 (by decide +kernel) gs3
theorem wl_46 : Cond.code yX12_gate cX12_gate 4 (some .int) ∈ gBIG := gm_at (l := tables_1_6) 218 (by decide +kernel) gs6
theorem wl_47 : Cond.methodLink R_law 39 yX12_gate ∈ gBIG := gm_at (l := tables_1_6) 215 (by decide +kernel) gs6
theorem wl_48 : Cond.instanceMethod yX12_gate ∈ gBIG := gm_at (l := tables_1_6) 216 (by decide +kernel) gs6
theorem wl_49 : Cond.selects RX12 yX12_gate yX12_gate ∈ gBIG := gm_at (l := tables_1_6) 217 (by decide +kernel) gs6
theorem wl_50 : Cond.code yX11_gateOf cX11_gateOf 3 (some .int) ∈ gBIG := gm_at (l := tables_1_3) 29 (by decide +kernel) gs3
theorem wl_51 : Cond.methodLink R_law 40 yX11_gateOf ∈ gBIG := gm_at (l := tables_1_3) 26 (by decide +kernel) gs3
theorem wl_52 : Cond.instanceMethod yX11_gateOf ∈ gBIG := gm_at (l := tables_1_3) 27 (by decide +kernel) gs3
theorem wl_53 : Cond.selects RX11 yX11_gateOf yX11_gateOf ∈ gBIG := gm_at (l := tables_1_3) 28 (by decide +kernel) gs3
theorem wl_54 : Cond.code yX12_gateOf cX12_gateOf 3 (some .int) ∈ gBIG := gm_at (l := tables_1_6) 222 (by decide +kernel) gs6
theorem wl_55 : Cond.methodLink R_law 43 yX12_gateOf ∈ gBIG := gm_at (l := tables_1_6) 219 (by decide +kernel) gs6
theorem wl_56 : Cond.instanceMethod yX12_gateOf ∈ gBIG := gm_at (l := tables_1_6) 220 (by decide +kernel) gs6
theorem wl_57 : Cond.selects RX12 yX12_gateOf yX12_gateOf ∈ gBIG := gm_at (l := tables_1_6) 221 (by decide +kernel) gs6
theorem wl_58 : Cond.code yX11_ends cX11_ends 3 (some .int) ∈ gBIG := gm_at (l := tables_1_3) 33 (by decide +kernel) gs3
theorem wl_59 : Cond.methodLink R_law 44 yX11_ends ∈ gBIG := gm_at (l := tables_1_3) 30 (by decide +kernel) gs3
theorem wl_60 : Cond.instanceMethod yX11_ends ∈ gBIG := gm_at (l := tables_1_3) 31 (by decide +kernel) gs3
theorem wl_61 : Cond.selects RX11 yX11_ends yX11_ends ∈ gBIG := gm_at (l := tables_1_3) 32 (by decide +kernel) gs3
theorem wl_62 : Cond.code yX12_ends cX12_ends 2 (some .int) ∈ gBIG := gm_at (l := tables_1_6) 226 (by decide +kernel) gs6
theorem wl_63 : Cond.methodLink R_law 48 yX12_ends ∈ gBIG := gm_at (l := tables_1_6) 223 (by decide +kernel) gs6
theorem wl_64 : Cond.instanceMethod yX12_ends ∈ gBIG := gm_at (l := tables_1_6) 224 (by decide +kernel) gs6
theorem wl_65 : Cond.selects RX12 yX12_ends yX12_ends ∈ gBIG := gm_at (l := tables_1_6) 225 (by decide +kernel) gs6
theorem wl_66 : Cond.code yX11_anew cX11_anew 2 (some .int) ∈ gBIG := gm_at (l := tables_1_3) 37 (by decide +kernel) gs3
theorem wl_67 : Cond.methodLink R_law 49 yX11_anew ∈ gBIG := gm_at (l := tables_1_3) 34 (by decide +kernel) gs3
theorem wl_68 : Cond.instanceMethod yX11_anew ∈ gBIG := gm_at (l := tables_1_3) 35 (by decide +kernel) gs3
theorem wl_69 : Cond.selects RX11 yX11_anew yX11_anew ∈ gBIG := gm_at (l := tables_1_3) 36 (by decide +kernel) gs3
theorem wl_70 : Cond.code yX12_anew cX12_anew 2 (some .int) ∈ gBIG := gm_at (l := tables_1_6) 230 (by decide +kernel) gs6
theorem wl_71 : Cond.methodLink R_law 53 yX12_anew ∈ gBIG := gm_at (l := tables_1_6) 227 (by decide +kernel) gs6
theorem wl_72 : Cond.instanceMethod yX12_anew ∈ gBIG := gm_at (l := tables_1_6) 228 (by decide +kernel) gs6
theorem wl_73 : Cond.selects RX12 yX12_anew yX12_anew ∈ gBIG := gm_at (l := tables_1_6) 229 (by decide +kernel) gs6
theorem wl_74 : Cond.code yX11_state cX11_state 2 (some .int) ∈ gBIG := gm_at (l := tables_1_3) 41 (by decide +kernel) gs3
theorem wl_75 : Cond.methodLink R_law 54 yX11_state ∈ gBIG := gm_at (l := tables_1_3) 38 (by decide +kernel) gs3
theorem wl_76 : Cond.instanceMethod yX11_state ∈ gBIG := gm_at (l := tables_1_3) 39 (by decide +kernel) gs3
theorem wl_77 : Cond.selects RX11 yX11_state yX11_state ∈ gBIG := gm_at (l := tables_1_3) 40 (by decide +kernel) gs3
theorem wl_78 : Cond.code yX12_state cX12_state 2 (some .int) ∈ gBIG := gm_at (l := tables_1_6) 234 (by decide +kernel) gs6
theorem wl_79 : Cond.methodLink R_law 57 yX12_state ∈ gBIG := gm_at (l := tables_1_6) 231 (by decide +kernel) gs6
theorem wl_80 : Cond.instanceMethod yX12_state ∈ gBIG := gm_at (l := tables_1_6) 232 (by decide +kernel) gs6
theorem wl_81 : Cond.selects RX12 yX12_state yX12_state ∈ gBIG := gm_at (l := tables_1_6) 233 (by decide +kernel) gs6
theorem wl_82 : Cond.code yX11_feed cX11_feed 5 (some .int) ∈ gBIG := gm_at (l := tables_1_3) 54 (by decide +kernel) gs3
theorem wl_83 : Cond.methodLink R_law 60 yX11_feed ∈ gBIG := gm_at (l := tables_1_3) 51 (by decide +kernel) gs3
theorem wl_84 : Cond.instanceMethod yX11_feed ∈ gBIG := gm_at (l := tables_1_3) 52 (by decide +kernel) gs3
theorem wl_85 : Cond.selects RX11 yX11_feed yX11_feed ∈ gBIG := gm_at (l := tables_1_3) 53 (by decide +kernel) gs3
theorem wl_86 : Cond.code yX12_feed cX12_feed 5 (some .int) ∈ gBIG := gm_at (l := tables_1_6) 50 (by decide +kernel) gs6
theorem wl_87 : Cond.methodLink R_law 64 yX12_feed ∈ gBIG := gm_at (l := tables_1_6) 47 (by decide +kernel) gs6
theorem wl_88 : Cond.instanceMethod yX12_feed ∈ gBIG := gm_at (l := tables_1_6) 48 (by decide +kernel) gs6
theorem wl_89 : Cond.selects RX12 yX12_feed yX12_feed ∈ gBIG := gm_at (l := tables_1_6) 49 (by decide +kernel) gs6
theorem wl_90 : Cond.code yX11_rules cX11_rules 2 (some .int) ∈ gBIG := gm_at (l := tables_1_3) 62 (by decide +kernel) gs3
theorem wl_91 : Cond.methodLink R_law 65 yX11_rules ∈ gBIG := gm_at (l := tables_1_3) 59 (by decide +kernel) gs3
theorem wl_92 : Cond.instanceMethod yX11_rules ∈ gBIG := gm_at (l := tables_1_3) 60 (by decide +kernel) gs3
theorem wl_93 : Cond.selects RX11 yX11_rules yX11_rules ∈ gBIG := gm_at (l := tables_1_3) 61 (by decide +kernel) gs3
theorem wl_94 : Cond.code yX12_rules cX12_rules 4 (some .int) ∈ gBIG := gm_at (l := tables_1_6) 58 (by decide +kernel) gs6
theorem wl_95 : Cond.methodLink R_law 68 yX12_rules ∈ gBIG := gm_at (l := tables_1_6) 55 (by decide +kernel) gs6
theorem wl_96 : Cond.instanceMethod yX12_rules ∈ gBIG := gm_at (l := tables_1_6) 56 (by decide +kernel) gs6
theorem wl_97 : Cond.selects RX12 yX12_rules yX12_rules ∈ gBIG := gm_at (l := tables_1_6) 57 (by decide +kernel) gs6
theorem wl_98 : Cond.code yX11_halt cX11_halt 1 (some .int) ∈ gBIG := gm_at (l := tables_1_3) 221 (by decide +kernel) gs3
theorem wl_99 : Cond.methodLink R_law 69 yX11_halt ∈ gBIG := gm_at (l := tables_1_3) 218 (by decide +kernel) gs3
theorem wl_100 : Cond.instanceMethod yX11_halt ∈ gBIG := gm_at (l := tables_1_3) 219 (by decide +kernel) gs3
theorem wl_101 : Cond.selects RX11 yX11_halt yX11_halt ∈ gBIG := gm_at (l := tables_1_3) 220 (by decide +kernel) gs3
theorem wl_102 : Cond.code yX12_halt cX12_halt 1 (some .int) ∈ gBIG := gm_at (l := tables_1_7) 10 (by decide +kernel) gs7
theorem wl_103 : Cond.methodLink R_law 72 yX12_halt ∈ gBIG := gm_at (l := tables_1_7) 7 (by decide +kernel) gs7
theorem wl_104 : Cond.instanceMethod yX12_halt ∈ gBIG := gm_at (l := tables_1_7) 8 (by decide +kernel) gs7
theorem wl_105 : Cond.selects RX12 yX12_halt yX12_halt ∈ gBIG := gm_at (l := tables_1_7) 9 (by decide +kernel) gs7
theorem wl_106 : Cond.code yX11_on cX11_on 3 (some .int) ∈ gBIG := gm_at (l := tables_1_4) 9 (by decide +kernel) gs4
theorem wl_107 : Cond.methodLink R_law 73 yX11_on ∈ gBIG := gm_at (l := tables_1_4) 6 (by decide +kernel) gs4
theorem wl_108 : Cond.instanceMethod yX11_on ∈ gBIG := gm_at (l := tables_1_4) 7 (by decide +kernel) gs4
theorem wl_109 : Cond.selects RX11 yX11_on yX11_on ∈ gBIG := gm_at (l := tables_1_4) 8 (by decide +kernel) gs4
theorem wl_110 : Cond.code yX12_on cX12_on 3 (some .int) ∈ gBIG := gm_at (l := tables_1_7) 33 (by decide +kernel) gs7
theorem wl_111 : Cond.methodLink R_law 76 yX12_on ∈ gBIG := gm_at (l := tables_1_7) 30 (by decide +kernel) gs7
theorem wl_112 : Cond.instanceMethod yX12_on ∈ gBIG := gm_at (l := tables_1_7) 31 (by decide +kernel) gs7
theorem wl_113 : Cond.selects RX12 yX12_on yX12_on ∈ gBIG := gm_at (l := tables_1_7) 32 (by decide +kernel) gs7
theorem wl_114 : Cond.code yX11_when cX11_when 5 (some .int) ∈ gBIG := gm_at (l := tables_1_4) 28 (by decide +kernel) gs4
theorem wl_115 : Cond.methodLink R_law 77 yX11_when ∈ gBIG := gm_at (l := tables_1_4) 25 (by decide +kernel) gs4
theorem wl_116 : Cond.instanceMethod yX11_when ∈ gBIG := gm_at (l := tables_1_4) 26 (by decide +kernel) gs4
theorem wl_117 : Cond.selects RX11 yX11_when yX11_when ∈ gBIG := gm_at (l := tables_1_4) 27 (by decide +kernel) gs4
theorem wl_118 : Cond.code yX12_when cX12_when 5 (some .int) ∈ gBIG := gm_at (l := tables_1_7) 49 (by decide +kernel) gs7
theorem wl_119 : Cond.methodLink R_law 80 yX12_when ∈ gBIG := gm_at (l := tables_1_7) 46 (by decide +kernel) gs7
theorem wl_120 : Cond.instanceMethod yX12_when ∈ gBIG := gm_at (l := tables_1_7) 47 (by decide +kernel) gs7
theorem wl_121 : Cond.selects RX12 yX12_when yX12_when ∈ gBIG := gm_at (l := tables_1_7) 48 (by decide +kernel) gs7
theorem wl_122 : Cond.code yX11_strawFor cX11_strawFor 2 (some .int) ∈ gBIG := gm_at (l := tables_1_4) 32 (by decide +kernel) gs4
theorem wl_123 : Cond.methodLink R_law 81 yX11_strawFor ∈ gBIG := gm_at (l := tables_1_4) 29 (by decide +kernel) gs4
theorem wl_124 : Cond.instanceMethod yX11_strawFor ∈ gBIG := gm_at (l := tables_1_4) 30 (by decide +kernel) gs4
theorem wl_125 : Cond.selects RX11 yX11_strawFor yX11_strawFor ∈ gBIG := gm_at (l := tables_1_4) 31 (by decide +kernel) gs4
theorem wl_126 : Cond.code yX12_strawFor cX12_strawFor 2 (some .int) ∈ gBIG := gm_at (l := tables_1_7) 53 (by decide +kernel) gs7
theorem wl_127 : Cond.methodLink R_law 84 yX12_strawFor ∈ gBIG := gm_at (l := tables_1_7) 50 (by decide +kernel) gs7
theorem wl_128 : Cond.instanceMethod yX12_strawFor ∈ gBIG := gm_at (l := tables_1_7) 51 (by decide +kernel) gs7
theorem wl_129 : Cond.selects RX12 yX12_strawFor yX12_strawFor ∈ gBIG := gm_at (l := tables_1_7) 52 (by decide +kernel) gs7
theorem wl_130 : Cond.code yX11_gateFor cX11_gateFor 2 (some .int) ∈ gBIG := gm_at (l := tables_1_4) 40 (by decide +kernel) gs4
theorem wl_131 : Cond.methodLink R_law 85 yX11_gateFor ∈ gBIG := gm_at (l := tables_1_4) 37 (by decide +kernel) gs4
theorem wl_132 : Cond.instanceMethod yX11_gateFor ∈ gBIG := gm_at (l := tables_1_4) 38 (by decide +kernel) gs4
theorem wl_133 : Cond.selects RX11 yX11_gateFor yX11_gateFor ∈ gBIG := gm_at (l := tables_1_4) 39 (by decide +kernel) gs4
theorem wl_134 : Cond.code yX12_gateFor cX12_gateFor 2 (some .int) ∈ gBIG := gm_at (l := tables_1_7) 61 (by decide +kernel) gs7
theorem wl_135 : Cond.methodLink R_law 88 yX12_gateFor ∈ gBIG := gm_at (l := tables_1_7) 58 (by decide +kernel) gs7
theorem wl_136 : Cond.instanceMethod yX12_gateFor ∈ gBIG := gm_at (l := tables_1_7) 59 (by decide +kernel) gs7
theorem wl_137 : Cond.selects RX12 yX12_gateFor yX12_gateFor ∈ gBIG := gm_at (l := tables_1_7) 60 (by decide +kernel) gs7
theorem wl_138 : Cond.code yX11_gone cX11_gone 3 (some .int) ∈ gBIG := gm_at (l := tables_1_4) 44 (by decide +kernel) gs4
theorem wl_139 : Cond.methodLink R_law 89 yX11_gone ∈ gBIG := gm_at (l := tables_1_4) 41 (by decide +kernel) gs4
theorem wl_140 : Cond.instanceMethod yX11_gone ∈ gBIG := gm_at (l := tables_1_4) 42 (by decide +kernel) gs4
theorem wl_141 : Cond.selects RX11 yX11_gone yX11_gone ∈ gBIG := gm_at (l := tables_1_4) 43 (by decide +kernel) gs4
theorem wl_142 : Cond.code yX12_gone cX12_gone 4 (some .int) ∈ gBIG := gm_at (l := tables_1_7) 65 (by decide +kernel) gs7
theorem wl_143 : Cond.methodLink R_law 92 yX12_gone ∈ gBIG := gm_at (l := tables_1_7) 62 (by decide +kernel) gs7
theorem wl_144 : Cond.instanceMethod yX12_gone ∈ gBIG := gm_at (l := tables_1_7) 63 (by decide +kernel) gs7
theorem wl_145 : Cond.selects RX12 yX12_gone yX12_gone ∈ gBIG := gm_at (l := tables_1_7) 64 (by decide +kernel) gs7
theorem wl_146 : Cond.code yX11_opens cX11_opens 4 (some .int) ∈ gBIG := gm_at (l := tables_1_4) 48 (by decide +kernel) gs4
theorem wl_147 : Cond.methodLink R_law 93 yX11_opens ∈ gBIG := gm_at (l := tables_1_4) 45 (by decide +kernel) gs4
theorem wl_148 : Cond.instanceMethod yX11_opens ∈ gBIG := gm_at (l := tables_1_4) 46 (by decide +kernel) gs4
theorem wl_149 : Cond.selects RX11 yX11_opens yX11_opens ∈ gBIG := gm_at (l := tables_1_4) 47 (by decide +kernel) gs4
theorem wl_150 : Cond.code yX12_opens cX12_opens 4 (some .int) ∈ gBIG := gm_at (l := tables_1_7) 69 (by decide +kernel) gs7
theorem wl_151 : Cond.methodLink R_law 96 yX12_opens ∈ gBIG := gm_at (l := tables_1_7) 66 (by decide +kernel) gs7
theorem wl_152 : Cond.instanceMethod yX12_opens ∈ gBIG := gm_at (l := tables_1_7) 67 (by decide +kernel) gs7
theorem wl_153 : Cond.selects RX12 yX12_opens yX12_opens ∈ gBIG := gm_at (l := tables_1_7) 68 (by decide +kernel) gs7
theorem wl_154 : Cond.code yX11_left cX11_left 4 (some .int) ∈ gBIG := gm_at (l := tables_1_4) 53 (by decide +kernel) gs4
theorem wl_155 : Cond.methodLink R_law 97 yX11_left ∈ gBIG := gm_at (l := tables_1_4) 50 (by decide +kernel) gs4
theorem wl_156 : Cond.instanceMethod yX11_left ∈ gBIG := gm_at (l := tables_1_4) 51 (by decide +kernel) gs4
theorem wl_157 : Cond.selects RX11 yX11_left yX11_left ∈ gBIG := gm_at (l := tables_1_4) 52 (by decide +kernel) gs4
theorem wl_158 : Cond.code yX12_left cX12_left 5 (some .int) ∈ gBIG := gm_at (l := tables_1_7) 73 (by decide +kernel) gs7
theorem wl_159 : Cond.methodLink R_law 100 yX12_left ∈ gBIG := gm_at (l := tables_1_7) 70 (by decide +kernel) gs7
theorem wl_160 : Cond.instanceMethod yX12_left ∈ gBIG := gm_at (l := tables_1_7) 71 (by decide +kernel) gs7
theorem wl_161 : Cond.selects RX12 yX12_left yX12_left ∈ gBIG := gm_at (l := tables_1_7) 72 (by decide +kernel) gs7
theorem wl_162 : Cond.code yX11_bunches cX11_bunches 2 (some .int) ∈ gBIG := gm_at (l := tables_1_4) 57 (by decide +kernel) gs4
theorem wl_163 : Cond.methodLink R_law 101 yX11_bunches ∈ gBIG := gm_at (l := tables_1_4) 54 (by decide +kernel) gs4
theorem wl_164 : Cond.instanceMethod yX11_bunches ∈ gBIG := gm_at (l := tables_1_4) 55 (by decide +kernel) gs4
theorem wl_165 : Cond.selects RX11 yX11_bunches yX11_bunches ∈ gBIG := gm_at (l := tables_1_4) 56 (by decide +kernel) gs4
theorem wl_166 : Cond.code yX12_bunches cX12_bunches 5 (some .int) ∈ gBIG := gm_at (l := tables_1_7) 77 (by decide +kernel) gs7
theorem wl_167 : Cond.methodLink R_law 104 yX12_bunches ∈ gBIG := gm_at (l := tables_1_7) 74 (by decide +kernel) gs7
theorem wl_168 : Cond.instanceMethod yX12_bunches ∈ gBIG := gm_at (l := tables_1_7) 75 (by decide +kernel) gs7
theorem wl_169 : Cond.selects RX12 yX12_bunches yX12_bunches ∈ gBIG := gm_at (l := tables_1_7) 76 (by decide +kernel) gs7
theorem wl_170 : Cond.code yX11_best cX11_best 2 (some .int) ∈ gBIG := gm_at (l := tables_1_4) 83 (by decide +kernel) gs4
theorem wl_171 : Cond.methodLink R_law 105 yX11_best ∈ gBIG := gm_at (l := tables_1_4) 80 (by decide +kernel) gs4
theorem wl_172 : Cond.instanceMethod yX11_best ∈ gBIG := gm_at (l := tables_1_4) 81 (by decide +kernel) gs4
theorem wl_173 : Cond.selects RX11 yX11_best yX11_best ∈ gBIG := gm_at (l := tables_1_4) 82 (by decide +kernel) gs4
theorem wl_174 : Cond.code yX12_best cX12_best 2 (some .int) ∈ gBIG := gm_at (l := tables_1_7) 89 (by decide +kernel) gs7
theorem wl_175 : Cond.methodLink R_law 108 yX12_best ∈ gBIG := gm_at (l := tables_1_7) 86 (by decide +kernel) gs7
theorem wl_176 : Cond.instanceMethod yX12_best ∈ gBIG := gm_at (l := tables_1_7) 87 (by decide +kernel) gs7
theorem wl_177 : Cond.selects RX12 yX12_best yX12_best ∈ gBIG := gm_at (l := tables_1_7) 88 (by decide +kernel) gs7
theorem wl_178 : Cond.code yX11_ith cX11_ith 3 (some .int) ∈ gBIG := gm_at (l := tables_1_4) 108 (by decide +kernel) gs4
theorem wl_179 : Cond.methodLink R_law 109 yX11_ith ∈ gBIG := gm_at (l := tables_1_4) 105 (by decide +kernel) gs4
theorem wl_180 : Cond.instanceMethod yX11_ith ∈ gBIG := gm_at (l := tables_1_4) 106 (by decide +kernel) gs4
theorem wl_181 : Cond.selects RX11 yX11_ith yX11_ith ∈ gBIG := gm_at (l := tables_1_4) 107 (by decide +kernel) gs4
theorem wl_182 : Cond.code yX12_ith cX12_ith 3 (some .int) ∈ gBIG := gm_at (l := tables_1_7) 120 (by decide +kernel) gs7
theorem wl_183 : Cond.methodLink R_law 112 yX12_ith ∈ gBIG := gm_at (l := tables_1_7) 117 (by decide +kernel) gs7
theorem wl_184 : Cond.instanceMethod yX12_ith ∈ gBIG := gm_at (l := tables_1_7) 118 (by decide +kernel) gs7
theorem wl_185 : Cond.selects RX12 yX12_ith yX12_ith ∈ gBIG := gm_at (l := tables_1_7) 119 (by decide +kernel) gs7
theorem wl_186 : Cond.code yX11_ways cX11_ways 2 (some .int) ∈ gBIG := gm_at (l := tables_1_4) 116 (by decide +kernel) gs4
theorem wl_187 : Cond.methodLink R_law 113 yX11_ways ∈ gBIG := gm_at (l := tables_1_4) 113 (by decide +kernel) gs4
theorem wl_188 : Cond.instanceMethod yX11_ways ∈ gBIG := gm_at (l := tables_1_4) 114 (by decide +kernel) gs4
theorem wl_189 : Cond.selects RX11 yX11_ways yX11_ways ∈ gBIG := gm_at (l := tables_1_4) 115 (by decide +kernel) gs4
theorem wl_190 : Cond.code yX12_ways cX12_ways 2 (some .int) ∈ gBIG := gm_at (l := tables_1_7) 124 (by decide +kernel) gs7
theorem wl_191 : Cond.methodLink R_law 116 yX12_ways ∈ gBIG := gm_at (l := tables_1_7) 121 (by decide +kernel) gs7
theorem wl_192 : Cond.instanceMethod yX12_ways ∈ gBIG := gm_at (l := tables_1_7) 122 (by decide +kernel) gs7
theorem wl_193 : Cond.selects RX12 yX12_ways yX12_ways ∈ gBIG := gm_at (l := tables_1_7) 123 (by decide +kernel) gs7
theorem wl_194 : Cond.code yX11_order cX11_order 4 (some .int) ∈ gBIG := gm_at (l := tables_1_4) 120 (by decide +kernel) gs4
theorem wl_195 : Cond.methodLink R_law 117 yX11_order ∈ gBIG := gm_at (l := tables_1_4) 117 (by decide +kernel) gs4
theorem wl_196 : Cond.instanceMethod yX11_order ∈ gBIG := gm_at (l := tables_1_4) 118 (by decide +kernel) gs4
theorem wl_197 : Cond.selects RX11 yX11_order yX11_order ∈ gBIG := gm_at (l := tables_1_4) 119 (by decide +kernel) gs4
theorem wl_198 : Cond.code yX12_order cX12_order 3 (some .int) ∈ gBIG := gm_at (l := tables_1_7) 128 (by decide +kernel) gs7
theorem wl_199 : Cond.methodLink R_law 120 yX12_order ∈ gBIG := gm_at (l := tables_1_7) 125 (by decide +kernel) gs7
theorem wl_200 : Cond.instanceMethod yX12_order ∈ gBIG := gm_at (l := tables_1_7) 126 (by decide +kernel) gs7
theorem wl_201 : Cond.selects RX12 yX12_order yX12_order ∈ gBIG := gm_at (l := tables_1_7) 127 (by decide +kernel) gs7
theorem wl_202 : Cond.code yX11_bars cX11_bars 4 (some .int) ∈ gBIG := gm_at (l := tables_1_4) 134 (by decide +kernel) gs4
theorem wl_203 : Cond.methodLink R_law 121 yX11_bars ∈ gBIG := gm_at (l := tables_1_4) 131 (by decide +kernel) gs4
theorem wl_204 : Cond.instanceMethod yX11_bars ∈ gBIG := gm_at (l := tables_1_4) 132 (by decide +kernel) gs4
theorem wl_205 : Cond.selects RX11 yX11_bars yX11_bars ∈ gBIG := gm_at (l := tables_1_4) 133 (by decide +kernel) gs4
theorem wl_206 : Cond.code yX12_bars cX12_bars 5 (some .int) ∈ gBIG := gm_at (l := tables_1_7) 136 (by decide +kernel) gs7
theorem wl_207 : Cond.methodLink R_law 124 yX12_bars ∈ gBIG := gm_at (l := tables_1_7) 133 (by decide +kernel) gs7
theorem wl_208 : Cond.instanceMethod yX12_bars ∈ gBIG := gm_at (l := tables_1_7) 134 (by decide +kernel) gs7
theorem wl_209 : Cond.selects RX12 yX12_bars yX12_bars ∈ gBIG := gm_at (l := tables_1_7) 135 (by decide +kernel) gs7
theorem wl_210 : Cond.code yX11_game cX11_game 2 (some .int) ∈ gBIG := gm_at (l := tables_1_4) 143 (by decide +kernel) gs4
theorem wl_211 : Cond.methodLink R_law 125 yX11_game ∈ gBIG := gm_at (l := tables_1_4) 140 (by decide +kernel) gs4
theorem wl_212 : Cond.instanceMethod yX11_game ∈ gBIG := gm_at (l := tables_1_4) 141 (by decide +kernel) gs4
theorem wl_213 : Cond.selects RX11 yX11_game yX11_game ∈ gBIG := gm_at (l := tables_1_4) 142 (by decide +kernel) gs4
theorem wl_214 : Cond.code yX12_game cX12_game 2 (some .int) ∈ gBIG := gm_at (l := tables_1_7) 140 (by decide +kernel) gs7
theorem wl_215 : Cond.methodLink R_law 128 yX12_game ∈ gBIG := gm_at (l := tables_1_7) 137 (by decide +kernel) gs7
theorem wl_216 : Cond.instanceMethod yX12_game ∈ gBIG := gm_at (l := tables_1_7) 138 (by decide +kernel) gs7
theorem wl_217 : Cond.selects RX12 yX12_game yX12_game ∈ gBIG := gm_at (l := tables_1_7) 139 (by decide +kernel) gs7
theorem wl_218 : Cond.code yX11_play cX11_play 2 (some .int) ∈ gBIG := gm_at (l := tables_1_4) 152 (by decide +kernel) gs4
theorem wl_219 : Cond.methodLink R_law 129 yX11_play ∈ gBIG := gm_at (l := tables_1_4) 149 (by decide +kernel) gs4
theorem wl_220 : Cond.instanceMethod yX11_play ∈ gBIG := gm_at (l := tables_1_4) 150 (by decide +kernel) gs4
theorem wl_221 : Cond.selects RX11 yX11_play yX11_play ∈ gBIG := gm_at (l := tables_1_4) 151 (by decide +kernel) gs4
theorem wl_222 : Cond.code yX12_play cX12_play 3 (some .int) ∈ gBIG := gm_at (l := tables_1_7) 148 (by decide +kernel) gs7
theorem wl_223 : Cond.methodLink R_law 132 yX12_play ∈ gBIG := gm_at (l := tables_1_7) 145 (by decide +kernel) gs7
theorem wl_224 : Cond.instanceMethod yX12_play ∈ gBIG := gm_at (l := tables_1_7) 146 (by decide +kernel) gs7
theorem wl_225 : Cond.selects RX12 yX12_play yX12_play ∈ gBIG := gm_at (l := tables_1_7) 147 (by decide +kernel) gs7
theorem wl_226 : Cond.code yX11_report cX11_report 8 (some .int) ∈ gBIG := gm_at (l := tables_1_4) 156 (by decide +kernel) gs4
theorem wl_227 : Cond.methodLink R_law 133 yX11_report ∈ gBIG := gm_at (l := tables_1_4) 153 (by decide +kernel) gs4
theorem wl_228 : Cond.instanceMethod yX11_report ∈ gBIG := gm_at (l := tables_1_4) 154 (by decide +kernel) gs4
theorem wl_229 : Cond.selects RX11 yX11_report yX11_report ∈ gBIG := gm_at (l := tables_1_4) 155 (by decide +kernel) gs4
theorem wl_230 : Cond.code yX12_report cX12_report 7 (some .int) ∈ gBIG := gm_at (l := tables_1_7) 152 (by decide +kernel) gs7
theorem wl_231 : Cond.methodLink R_law 136 yX12_report ∈ gBIG := gm_at (l := tables_1_7) 149 (by decide +kernel) gs7
theorem wl_232 : Cond.instanceMethod yX12_report ∈ gBIG := gm_at (l := tables_1_7) 150 (by decide +kernel) gs7
theorem wl_233 : Cond.selects RX12 yX12_report yX12_report ∈ gBIG := gm_at (l := tables_1_7) 151 (by decide +kernel) gs7
theorem wl_234 : Cond.code yX11_forget cX11_forget 2 (some .int) ∈ gBIG := gm_at (l := tables_1_4) 160 (by decide +kernel) gs4
theorem wl_235 : Cond.methodLink R_law 137 yX11_forget ∈ gBIG := gm_at (l := tables_1_4) 157 (by decide +kernel) gs4
theorem wl_236 : Cond.instanceMethod yX11_forget ∈ gBIG := gm_at (l := tables_1_4) 158 (by decide +kernel) gs4
theorem wl_237 : Cond.selects RX11 yX11_forget yX11_forget ∈ gBIG := gm_at (l := tables_1_4) 159 (by decide +kernel) gs4
theorem wl_238 : Cond.code yX12_forget cX12_forget 1 (some .int) ∈ gBIG := gm_at (l := tables_1_7) 156 (by decide +kernel) gs7
theorem wl_239 : Cond.methodLink R_law 140 yX12_forget ∈ gBIG := gm_at (l := tables_1_7) 153 (by decide +kernel) gs7
theorem wl_240 : Cond.instanceMethod yX12_forget ∈ gBIG := gm_at (l := tables_1_7) 154 (by decide +kernel) gs7
theorem wl_241 : Cond.selects RX12 yX12_forget yX12_forget ∈ gBIG := gm_at (l := tables_1_7) 155 (by decide +kernel) gs7
theorem wl_242 : Cond.code yX11_lone cX11_lone 4 (some .int) ∈ gBIG := gm_at (l := tables_1_4) 164 (by decide +kernel) gs4
theorem wl_243 : Cond.methodLink R_law 141 yX11_lone ∈ gBIG := gm_at (l := tables_1_4) 161 (by decide +kernel) gs4
theorem wl_244 : Cond.instanceMethod yX11_lone ∈ gBIG := gm_at (l := tables_1_4) 162 (by decide +kernel) gs4
theorem wl_245 : Cond.selects RX11 yX11_lone yX11_lone ∈ gBIG := gm_at (l := tables_1_4) 163 (by decide +kernel) gs4
theorem wl_246 : Cond.code yX12_lone cX12_lone 3 (some .int) ∈ gBIG := gm_at (l := tables_1_7) 160 (by decide +kernel) gs7
theorem wl_247 : Cond.methodLink R_law 144 yX12_lone ∈ gBIG := gm_at (l := tables_1_7) 157 (by decide +kernel) gs7
theorem wl_248 : Cond.instanceMethod yX12_lone ∈ gBIG := gm_at (l := tables_1_7) 158 (by decide +kernel) gs7
theorem wl_249 : Cond.selects RX12 yX12_lone yX12_lone ∈ gBIG := gm_at (l := tables_1_7) 159 (by decide +kernel) gs7
theorem wl_250 : Cond.code yX11_liar cX11_liar 4 (some .int) ∈ gBIG := gm_at (l := tables_1_4) 186 (by decide +kernel) gs4
theorem wl_251 : Cond.methodLink R_law 145 yX11_liar ∈ gBIG := gm_at (l := tables_1_4) 183 (by decide +kernel) gs4
theorem wl_252 : Cond.instanceMethod yX11_liar ∈ gBIG := gm_at (l := tables_1_4) 184 (by decide +kernel) gs4
theorem wl_253 : Cond.selects RX11 yX11_liar yX11_liar ∈ gBIG := gm_at (l := tables_1_4) 185 (by decide +kernel) gs4
theorem wl_254 : Cond.code yX12_liar cX12_liar 2 (some .int) ∈ gBIG := gm_at (l := tables_1_7) 176 (by decide +kernel) gs7
theorem wl_255 : Cond.methodLink R_law 148 yX12_liar ∈ gBIG := gm_at (l := tables_1_7) 173 (by decide +kernel) gs7
theorem wl_256 : Cond.instanceMethod yX12_liar ∈ gBIG := gm_at (l := tables_1_7) 174 (by decide +kernel) gs7
theorem wl_257 : Cond.selects RX12 yX12_liar yX12_liar ∈ gBIG := gm_at (l := tables_1_7) 175 (by decide +kernel) gs7
theorem wl_258 : Cond.code yX11_seed cX11_seed 3 (some .int) ∈ gBIG := gm_at (l := tables_1_4) 191 (by decide +kernel) gs4
theorem wl_259 : Cond.methodLink R_law 149 yX11_seed ∈ gBIG := gm_at (l := tables_1_4) 188 (by decide +kernel) gs4
theorem wl_260 : Cond.instanceMethod yX11_seed ∈ gBIG := gm_at (l := tables_1_4) 189 (by decide +kernel) gs4
theorem wl_261 : Cond.selects RX11 yX11_seed yX11_seed ∈ gBIG := gm_at (l := tables_1_4) 190 (by decide +kernel) gs4
theorem wl_262 : Cond.code yX12_seed cX12_seed 2 (some .int) ∈ gBIG := gm_at (l := tables_1_7) 180 (by decide +kernel) gs7
theorem wl_263 : Cond.methodLink R_law 152 yX12_seed ∈ gBIG := gm_at (l := tables_1_7) 177 (by decide +kernel) gs7
theorem wl_264 : Cond.instanceMethod yX12_seed ∈ gBIG := gm_at (l := tables_1_7) 178 (by decide +kernel) gs7
theorem wl_265 : Cond.selects RX12 yX12_seed yX12_seed ∈ gBIG := gm_at (l := tables_1_7) 179 (by decide +kernel) gs7
theorem wl_266 : Cond.code yX11_lot cX11_lot 1 (some .int) ∈ gBIG := gm_at (l := tables_1_4) 195 (by decide +kernel) gs4
theorem wl_267 : Cond.methodLink R_law 153 yX11_lot ∈ gBIG := gm_at (l := tables_1_4) 192 (by decide +kernel) gs4
theorem wl_268 : Cond.instanceMethod yX11_lot ∈ gBIG := gm_at (l := tables_1_4) 193 (by decide +kernel) gs4
theorem wl_269 : Cond.selects RX11 yX11_lot yX11_lot ∈ gBIG := gm_at (l := tables_1_4) 194 (by decide +kernel) gs4
theorem wl_270 : Cond.code yX12_lot cX12_lot 1 (some .int) ∈ gBIG := gm_at (l := tables_1_7) 184 (by decide +kernel) gs7
theorem wl_271 : Cond.methodLink R_law 156 yX12_lot ∈ gBIG := gm_at (l := tables_1_7) 181 (by decide +kernel) gs7
theorem wl_272 : Cond.instanceMethod yX12_lot ∈ gBIG := gm_at (l := tables_1_7) 182 (by decide +kernel) gs7
theorem wl_273 : Cond.selects RX12 yX12_lot yX12_lot ∈ gBIG := gm_at (l := tables_1_7) 183 (by decide +kernel) gs7
theorem wl_274 : Cond.code yX11_times cX11_times 6 (some .int) ∈ gBIG := gm_at (l := tables_1_4) 204 (by decide +kernel) gs4
theorem wl_275 : Cond.methodLink R_law 157 yX11_times ∈ gBIG := gm_at (l := tables_1_4) 201 (by decide +kernel) gs4
theorem wl_276 : Cond.instanceMethod yX11_times ∈ gBIG := gm_at (l := tables_1_4) 202 (by decide +kernel) gs4
theorem wl_277 : Cond.selects RX11 yX11_times yX11_times ∈ gBIG := gm_at (l := tables_1_4) 203 (by decide +kernel) gs4
theorem wl_278 : Cond.code yX12_times cX12_times 7 (some .int) ∈ gBIG := gm_at (l := tables_1_7) 193 (by decide +kernel) gs7
theorem wl_279 : Cond.methodLink R_law 160 yX12_times ∈ gBIG := gm_at (l := tables_1_7) 190 (by decide +kernel) gs7
theorem wl_280 : Cond.instanceMethod yX12_times ∈ gBIG := gm_at (l := tables_1_7) 191 (by decide +kernel) gs7
theorem wl_281 : Cond.selects RX12 yX12_times yX12_times ∈ gBIG := gm_at (l := tables_1_7) 192 (by decide +kernel) gs7
theorem wl_282 : Cond.code yX11_prove cX11_prove 5 (some .int) ∈ gBIG := gm_at (l := tables_1_4) 213 (by decide +kernel) gs4
theorem wl_283 : Cond.methodLink R_law 161 yX11_prove ∈ gBIG := gm_at (l := tables_1_4) 210 (by decide +kernel) gs4
theorem wl_284 : Cond.instanceMethod yX11_prove ∈ gBIG := gm_at (l := tables_1_4) 211 (by decide +kernel) gs4
theorem wl_285 : Cond.selects RX11 yX11_prove yX11_prove ∈ gBIG := gm_at (l := tables_1_4) 212 (by decide +kernel) gs4
theorem wl_286 : Cond.code yX12_prove cX12_prove 3 (some .int) ∈ gBIG := gm_at (l := tables_1_7) 197 (by decide +kernel) gs7
theorem wl_287 : Cond.methodLink R_law 164 yX12_prove ∈ gBIG := gm_at (l := tables_1_7) 194 (by decide +kernel) gs7
theorem wl_288 : Cond.instanceMethod yX12_prove ∈ gBIG := gm_at (l := tables_1_7) 195 (by decide +kernel) gs7
theorem wl_289 : Cond.selects RX12 yX12_prove yX12_prove ∈ gBIG := gm_at (l := tables_1_7) 196 (by decide +kernel) gs7
theorem wl_290 : Cond.code yX11_row cX11_row 3 (some .int) ∈ gBIG := gm_at (l := tables_1_4) 217 (by decide +kernel) gs4
theorem wl_291 : Cond.methodLink R_law 165 yX11_row ∈ gBIG := gm_at (l := tables_1_4) 214 (by decide +kernel) gs4
theorem wl_292 : Cond.instanceMethod yX11_row ∈ gBIG := gm_at (l := tables_1_4) 215 (by decide +kernel) gs4
theorem wl_293 : Cond.selects RX11 yX11_row yX11_row ∈ gBIG := gm_at (l := tables_1_4) 216 (by decide +kernel) gs4
theorem wl_294 : Cond.code yX12_row cX12_row 3 (some .int) ∈ gBIG := gm_at (l := tables_1_7) 201 (by decide +kernel) gs7
theorem wl_295 : Cond.methodLink R_law 168 yX12_row ∈ gBIG := gm_at (l := tables_1_7) 198 (by decide +kernel) gs7
theorem wl_296 : Cond.instanceMethod yX12_row ∈ gBIG := gm_at (l := tables_1_7) 199 (by decide +kernel) gs7
theorem wl_297 : Cond.selects RX12 yX12_row yX12_row ∈ gBIG := gm_at (l := tables_1_7) 200 (by decide +kernel) gs7
theorem wl_298 : Cond.code yX11_alterRow cX11_alterRow 5 (some .int) ∈ gBIG := gm_at (l := tables_1_4) 225 (by decide +kernel) gs4
theorem wl_299 : Cond.methodLink R_law 169 yX11_alterRow ∈ gBIG := gm_at (l := tables_1_4) 222 (by decide +kernel) gs4
theorem wl_300 : Cond.instanceMethod yX11_alterRow ∈ gBIG := gm_at (l := tables_1_4) 223 (by decide +kernel) gs4
theorem wl_301 : Cond.selects RX11 yX11_alterRow yX11_alterRow ∈ gBIG := gm_at (l := tables_1_4) 224 (by decide +kernel) gs4
theorem wl_302 : Cond.code yX12_alterRow cX12_alterRow 5 (some .int) ∈ gBIG := gm_at (l := tables_1_7) 209 (by decide +kernel) gs7
theorem wl_303 : Cond.methodLink R_law 172 yX12_alterRow ∈ gBIG := gm_at (l := tables_1_7) 206 (by decide +kernel) gs7
theorem wl_304 : Cond.instanceMethod yX12_alterRow ∈ gBIG := gm_at (l := tables_1_7) 207 (by decide +kernel) gs7
theorem wl_305 : Cond.selects RX12 yX12_alterRow yX12_alterRow ∈ gBIG := gm_at (l := tables_1_7) 208 (by decide +kernel) gs7
theorem wl_306 : Cond.code yX11_judge cX11_judge 3 (some .int) ∈ gBIG := gm_at (l := tables_1_4) 229 (by decide +kernel) gs4
theorem wl_307 : Cond.methodLink R_law 173 yX11_judge ∈ gBIG := gm_at (l := tables_1_4) 226 (by decide +kernel) gs4
theorem wl_308 : Cond.instanceMethod yX11_judge ∈ gBIG := gm_at (l := tables_1_4) 227 (by decide +kernel) gs4
theorem wl_309 : Cond.selects RX11 yX11_judge yX11_judge ∈ gBIG := gm_at (l := tables_1_4) 228 (by decide +kernel) gs4
theorem wl_310 : Cond.code yX12_judge cX12_judge 6 (some .int) ∈ gBIG := gm_at (l := tables_1_7) 213 (by decide +kernel) gs7
theorem wl_311 : Cond.methodLink R_law 176 yX12_judge ∈ gBIG := gm_at (l := tables_1_7) 210 (by decide +kernel) gs7
theorem wl_312 : Cond.instanceMethod yX12_judge ∈ gBIG := gm_at (l := tables_1_7) 211 (by decide +kernel) gs7
theorem wl_313 : Cond.selects RX12 yX12_judge yX12_judge ∈ gBIG := gm_at (l := tables_1_7) 212 (by decide +kernel) gs7
theorem wl_314 : Cond.code yX11_sheet cX11_sheet 5 (some .int) ∈ gBIG := gm_at (l := tables_1_5) 1 (by decide +kernel) gs5
theorem wl_315 : Cond.methodLink R_law 177 yX11_sheet ∈ gBIG := gm_at (l := tables_1_4) 238 (by decide +kernel) gs4
theorem wl_316 : Cond.instanceMethod yX11_sheet ∈ gBIG := gm_at (l := tables_1_4) 239 (by decide +kernel) gs4
theorem wl_317 : Cond.selects RX11 yX11_sheet yX11_sheet ∈ gBIG := gm_at (l := tables_1_5) 0 (by decide +kernel) gs5
theorem wl_318 : Cond.code yX12_sheet cX12_sheet 5 (some .int) ∈ gBIG := gm_at (l := tables_1_7) 221 (by decide +kernel) gs7
theorem wl_319 : Cond.methodLink R_law 180 yX12_sheet ∈ gBIG := gm_at (l := tables_1_7) 218 (by decide +kernel) gs7
theorem wl_320 : Cond.instanceMethod yX12_sheet ∈ gBIG := gm_at (l := tables_1_7) 219 (by decide +kernel) gs7
theorem wl_321 : Cond.selects RX12 yX12_sheet yX12_sheet ∈ gBIG := gm_at (l := tables_1_7) 220 (by decide +kernel) gs7
theorem wl_322 : Cond.code yX11_write cX11_write 4 (some .int) ∈ gBIG := gm_at (l := tables_1_5) 8 (by decide +kernel) gs5
theorem wl_323 : Cond.methodLink R_law 181 yX11_write ∈ gBIG := gm_at (l := tables_1_5) 5 (by decide +kernel) gs5
theorem wl_324 : Cond.instanceMethod yX11_write ∈ gBIG := gm_at (l := tables_1_5) 6 (by decide +kernel) gs5
theorem wl_325 : Cond.selects RX11 yX11_write yX11_write ∈ gBIG := gm_at (l := tables_1_5) 7 (by decide +kernel) gs5
theorem wl_326 : Cond.code yX12_write cX12_write 4 (some .int) ∈ gBIG := gm_at (l := tables_1_7) 228 (by decide +kernel) gs7
theorem wl_327 : Cond.methodLink R_law 184 yX12_write ∈ gBIG := gm_at (l := tables_1_7) 225 (by decide +kernel) gs7
theorem wl_328 : Cond.instanceMethod yX12_write ∈ gBIG := gm_at (l := tables_1_7) 226 (by decide +kernel) gs7
theorem wl_329 : Cond.selects RX12 yX12_write yX12_write ∈ gBIG := gm_at (l := tables_1_7) 227 (by decide +kernel) gs7
theorem wl_330 : Cond.code yX11_item cX11_item 5 (some .int) ∈ gBIG := gm_at (l := tables_1_5) 19 (by decide +kernel) gs5
theorem wl_331 : Cond.methodLink R_law 185 yX11_item ∈ gBIG := gm_at (l := tables_1_5) 16 (by decide +kernel) gs5
theorem wl_332 : Cond.instanceMethod yX11_item ∈ gBIG := gm_at (l := tables_1_5) 17 (by decide +kernel) gs5
theorem wl_333 : Cond.selects RX11 yX11_item yX11_item ∈ gBIG := gm_at (l := tables_1_5) 18 (by decide +kernel) gs5
theorem wl_334 : Cond.code yX12_item cX12_item 5 (some .int) ∈ gBIG := gm_at (l := tables_1_7) 235 (by decide +kernel) gs7
theorem wl_335 : Cond.methodLink R_law 188 yX12_item ∈ gBIG := gm_at (l := tables_1_7) 232 (by decide +kernel) gs7
theorem wl_336 : Cond.instanceMethod yX12_item ∈ gBIG := gm_at (l := tables_1_7) 233 (by decide +kernel) gs7
theorem wl_337 : Cond.selects RX12 yX12_item yX12_item ∈ gBIG := gm_at (l := tables_1_7) 234 (by decide +kernel) gs7
theorem wl_338 : Cond.code yX11_goAll cX11_goAll 8 (some .int) ∈ gBIG := gm_at (l := tables_1_5) 27 (by decide +kernel) gs5
theorem wl_339 : Cond.methodLink R_law 189 yX11_goAll ∈ gBIG := gm_at (l := tables_1_5) 24 (by decide +kernel) gs5
theorem wl_340 : Cond.instanceMethod yX11_goAll ∈ gBIG := gm_at (l := tables_1_5) 25 (by decide +kernel) gs5
theorem wl_341 : Cond.selects RX11 yX11_goAll yX11_goAll ∈ gBIG := gm_at (l := tables_1_5) 26 (by decide +kernel) gs5
theorem wl_342 : Cond.code yX12_goAll cX12_goAll 8 (some .int) ∈ gBIG := gm_at (l := tables_1_8) 3 (by decide +kernel) gs8
theorem wl_343 : Cond.methodLink R_law 192 yX12_goAll ∈ gBIG := gm_at (l := tables_1_8) 0 (by decide +kernel) gs8
theorem wl_344 : Cond.instanceMethod yX12_goAll ∈ gBIG := gm_at (l := tables_1_8) 1 (by decide +kernel) gs8
theorem wl_345 : Cond.selects RX12 yX12_goAll yX12_goAll ∈ gBIG := gm_at (l := tables_1_8) 2 (by decide +kernel) gs8
theorem wl_346 : Cond.code yX11_wouldBe cX11_wouldBe 6 (some .int) ∈ gBIG := gm_at (l := tables_1_5) 31 (by decide +kernel) gs5
theorem wl_347 : Cond.methodLink R_law 193 yX11_wouldBe ∈ gBIG := gm_at (l := tables_1_5) 28 (by decide +kernel) gs5
theorem wl_348 : Cond.instanceMethod yX11_wouldBe ∈ gBIG := gm_at (l := tables_1_5) 29 (by decide +kernel) gs5
theorem wl_349 : Cond.selects RX11 yX11_wouldBe yX11_wouldBe ∈ gBIG := gm_at (l := tables_1_5) 30 (by decide +kernel) gs5
theorem wl_350 : Cond.code yX12_wouldBe cX12_wouldBe 8 (some .int) ∈ gBIG := gm_at (l := tables_1_8) 11 (by decide +kernel) gs8
theorem wl_351 : Cond.methodLink R_law 196 yX12_wouldBe ∈ gBIG := gm_at (l := tables_1_8) 8 (by decide +kernel) gs8
theorem wl_352 : Cond.instanceMethod yX12_wouldBe ∈ gBIG := gm_at (l := tables_1_8) 9 (by decide +kernel) gs8
theorem wl_353 : Cond.selects RX12 yX12_wouldBe yX12_wouldBe ∈ gBIG := gm_at (l := tables_1_8) 10 (by decide +kernel) gs8
theorem wl_354 : Cond.code yX11_shelf cX11_shelf 4 (some .int) ∈ gBIG := gm_at (l := tables_1_5) 39 (by decide +kernel) gs5
theorem wl_355 : Cond.methodLink R_law 197 yX11_shelf ∈ gBIG := gm_at (l := tables_1_5) 36 (by decide +kernel) gs5
theorem wl_356 : Cond.instanceMethod yX11_shelf ∈ gBIG := gm_at (l := tables_1_5) 37 (by decide +kernel) gs5
theorem wl_357 : Cond.selects RX11 yX11_shelf yX11_shelf ∈ gBIG := gm_at (l := tables_1_5) 38 (by decide +kernel) gs5
theorem wl_358 : Cond.code yX12_shelf cX12_shelf 4 (some .int) ∈ gBIG := gm_at (l := tables_1_8) 15 (by decide +kernel) gs8
theorem wl_359 : Cond.methodLink R_law 200 yX12_shelf ∈ gBIG := gm_at (l := tables_1_8) 12 (by decide +kernel) gs8
theorem wl_360 : Cond.instanceMethod yX12_shelf ∈ gBIG := gm_at (l := tables_1_8) 13 (by decide +kernel) gs8
theorem wl_361 : Cond.selects RX12 yX12_shelf yX12_shelf ∈ gBIG := gm_at (l := tables_1_8) 14 (by decide +kernel) gs8
theorem wl_362 : Cond.code yX11_taken cX11_taken 5 (some .int) ∈ gBIG := gm_at (l := tables_1_5) 43 (by decide +kernel) gs5
theorem wl_363 : Cond.methodLink R_law 201 yX11_taken ∈ gBIG := gm_at (l := tables_1_5) 40 (by decide +kernel) gs5
theorem wl_364 : Cond.instanceMethod yX11_taken ∈ gBIG := gm_at (l := tables_1_5) 41 (by decide +kernel) gs5
theorem wl_365 : Cond.selects RX11 yX11_taken yX11_taken ∈ gBIG := gm_at (l := tables_1_5) 42 (by decide +kernel) gs5
theorem wl_366 : Cond.code yX12_taken cX12_taken 5 (some .int) ∈ gBIG := gm_at (l := tables_1_8) 19 (by decide +kernel) gs8
theorem wl_367 : Cond.methodLink R_law 204 yX12_taken ∈ gBIG := gm_at (l := tables_1_8) 16 (by decide +kernel) gs8
theorem wl_368 : Cond.instanceMethod yX12_taken ∈ gBIG := gm_at (l := tables_1_8) 17 (by decide +kernel) gs8
theorem wl_369 : Cond.selects RX12 yX12_taken yX12_taken ∈ gBIG := gm_at (l := tables_1_8) 18 (by decide +kernel) gs8
theorem wl_370 : Cond.code yX11_act cX11_act 7 (some .int) ∈ gBIG := gm_at (l := tables_1_5) 52 (by decide +kernel) gs5
theorem wl_371 : Cond.methodLink R_law 205 yX11_act ∈ gBIG := gm_at (l := tables_1_5) 49 (by decide +kernel) gs5
theorem wl_372 : Cond.instanceMethod yX11_act ∈ gBIG := gm_at (l := tables_1_5) 50 (by decide +kernel) gs5
theorem wl_373 : Cond.selects RX11 yX11_act yX11_act ∈ gBIG := gm_at (l := tables_1_5) 51 (by decide +kernel) gs5
theorem wl_374 : Cond.code yX12_act cX12_act 6 (some .int) ∈ gBIG := gm_at (l := tables_1_8) 27 (by decide +kernel) gs8
theorem wl_375 : Cond.methodLink R_law 208 yX12_act ∈ gBIG := gm_at (l := tables_1_8) 24 (by decide +kernel) gs8
theorem wl_376 : Cond.instanceMethod yX12_act ∈ gBIG := gm_at (l := tables_1_8) 25 (by decide +kernel) gs8
theorem wl_377 : Cond.selects RX12 yX12_act yX12_act ∈ gBIG := gm_at (l := tables_1_8) 26 (by decide +kernel) gs8
theorem wl_378 : Cond.code yX11_trace cX11_trace 2 (some .int) ∈ gBIG := gm_at (l := tables_1_5) 150 (by decide +kernel) gs5
theorem wl_379 : Cond.methodLink R_law 209 yX11_trace ∈ gBIG := gm_at (l := tables_1_5) 147 (by decide +kernel) gs5
theorem wl_380 : Cond.instanceMethod yX11_trace ∈ gBIG := gm_at (l := tables_1_5) 148 (by decide +kernel) gs5
theorem wl_381 : Cond.selects RX11 yX11_trace yX11_trace ∈ gBIG := gm_at (l := tables_1_5) 149 (by decide +kernel) gs5
theorem wl_382 : Cond.code yX12_trace cX12_trace 2 (some .int) ∈ gBIG := gm_at (l := tables_1_8) 51 (by decide +kernel) gs8
theorem wl_383 : Cond.methodLink R_law 212 yX12_trace ∈ gBIG := gm_at (l := tables_1_8) 48 (by decide +kernel) gs8
theorem wl_384 : Cond.instanceMethod yX12_trace ∈ gBIG := gm_at (l := tables_1_8) 49 (by decide +kernel) gs8
theorem wl_385 : Cond.selects RX12 yX12_trace yX12_trace ∈ gBIG := gm_at (l := tables_1_8) 50 (by decide +kernel) gs8
theorem wl_386 : Cond.code yX11_many cX11_many 2 (some .int) ∈ gBIG := gm_at (l := tables_1_5) 154 (by decide +kernel) gs5
theorem wl_387 : Cond.methodLink R_law 213 yX11_many ∈ gBIG := gm_at (l := tables_1_5) 151 (by decide +kernel) gs5
theorem wl_388 : Cond.instanceMethod yX11_many ∈ gBIG := gm_at (l := tables_1_5) 152 (by decide +kernel) gs5
theorem wl_389 : Cond.selects RX11 yX11_many yX11_many ∈ gBIG := gm_at (l := tables_1_5) 153 (by decide +kernel) gs5
theorem wl_390 : Cond.code yX12_many cX12_many 2 (some .int) ∈ gBIG := gm_at (l := tables_1_8) 55 (by decide +kernel) gs8
theorem wl_391 : Cond.methodLink R_law 216 yX12_many ∈ gBIG := gm_at (l := tables_1_8) 52 (by decide +kernel) gs8
theorem wl_392 : Cond.instanceMethod yX12_many ∈ gBIG := gm_at (l := tables_1_8) 53 (by decide +kernel) gs8
theorem wl_393 : Cond.selects RX12 yX12_many yX12_many ∈ gBIG := gm_at (l := tables_1_8) 54 (by decide +kernel) gs8
theorem wl_394 : Cond.code yX11_keep cX11_keep 1 (some .int) ∈ gBIG := gm_at (l := tables_1_5) 158 (by decide +kernel) gs5
theorem wl_395 : Cond.methodLink R_law 217 yX11_keep ∈ gBIG := gm_at (l := tables_1_5) 155 (by decide +kernel) gs5
theorem wl_396 : Cond.instanceMethod yX11_keep ∈ gBIG := gm_at (l := tables_1_5) 156 (by decide +kernel) gs5
theorem wl_397 : Cond.selects RX11 yX11_keep yX11_keep ∈ gBIG := gm_at (l := tables_1_5) 157 (by decide +kernel) gs5
theorem wl_398 : Cond.code yX12_keep cX12_keep 2 (some .int) ∈ gBIG := gm_at (l := tables_1_8) 62 (by decide +kernel) gs8
theorem wl_399 : Cond.methodLink R_law 220 yX12_keep ∈ gBIG := gm_at (l := tables_1_8) 59 (by decide +kernel) gs8
theorem wl_400 : Cond.instanceMethod yX12_keep ∈ gBIG := gm_at (l := tables_1_8) 60 (by decide +kernel) gs8
theorem wl_401 : Cond.selects RX12 yX12_keep yX12_keep ∈ gBIG := gm_at (l := tables_1_8) 61 (by decide +kernel) gs8
theorem wl_402 : Cond.code yX11_again cX11_again 1 (some .int) ∈ gBIG := gm_at (l := tables_1_5) 167 (by decide +kernel) gs5
theorem wl_403 : Cond.methodLink R_law 221 yX11_again ∈ gBIG := gm_at (l := tables_1_5) 164 (by decide +kernel) gs5
theorem wl_404 : Cond.instanceMethod yX11_again ∈ gBIG := gm_at (l := tables_1_5) 165 (by decide +kernel) gs5
theorem wl_405 : Cond.selects RX11 yX11_again yX11_again ∈ gBIG := gm_at (l := tables_1_5) 166 (by decide +kernel) gs5
theorem wl_406 : Cond.code yX12_again cX12_again 2 (some .int) ∈ gBIG := gm_at (l := tables_1_8) 66 (by decide +kernel) gs8
theorem wl_407 : Cond.methodLink R_law 224 yX12_again ∈ gBIG := gm_at (l := tables_1_8) 63 (by decide +kernel) gs8
theorem wl_408 : Cond.instanceMethod yX12_again ∈ gBIG := gm_at (l := tables_1_8) 64 (by decide +kernel) gs8
theorem wl_409 : Cond.selects RX12 yX12_again yX12_again ∈ gBIG := gm_at (l := tables_1_8) 65 (by decide +kernel) gs8
theorem wl_410 : Cond.classLink R_law 7 RX11 ∈ gBIG := gm_at (l := tables_1_1) 21 (by decide +kernel) gs1
theorem wl_411 : Cond.instantiable RX11 14 ∈ gBIG := gm_at (l := tables_1_1) 22 (by decide +kernel) gs1
theorem wl_412 : Cond.code yX11_init cX11_init 4 none ∈ gBIG := gm_at (l := tables_1_1) 25 (by decide +kernel) gs1
theorem wl_413 : Cond.methodLink R_law 9 yX11_init ∈ gBIG := gm_at (l := tables_1_1) 23 (by decide +kernel) gs1
theorem wl_414 : Cond.instanceMethod yX11_init ∈ gBIG := gm_at (l := tables_1_1) 24 (by decide +kernel) gs1
theorem wl_415 : Cond.classLink R_law 10 RX12 ∈ gBIG := gm_at (l := tables_1_5) 168 (by decide +kernel) gs5
theorem wl_416 : Cond.instantiable RX12 37 ∈ gBIG := gm_at (l := tables_1_5) 169 (by decide +kernel) gs5
theorem wl_417 : Cond.code yX12_init cX12_init 2 none ∈ gBIG := gm_at (l := tables_1_5) 172 (by decide +kernel) gs5
theorem wl_418 : Cond.methodLink R_law 12 yX12_init ∈ gBIG := gm_at (l := tables_1_5) 170 (by decide +kernel) gs5
theorem wl_419 : Cond.instanceMethod yX12_init ∈ gBIG := gm_at (l := tables_1_5) 171 (by decide +kernel) gs5
theorem cm_X11_key : gcm mX11_key 4 := ⟨wl_0, wl_1, by decide, by decide, by decide, by decide +kernel, by decide⟩
theorem cm_X12_key : gcm mX12_key 4 := ⟨wl_5, wl_6, by decide, by decide, by decide, by decide +kernel, by decide⟩
theorem cm_X11_keyOf : gcm mX11_keyOf 2 := ⟨wl_10, wl_1, by decide, by decide, by decide, by decide +kernel, by decide⟩
theorem cm_X12_keyOf : gcm mX12_keyOf 2 := ⟨wl_14, wl_6, by decide, by decide, by decide, by decide +kernel, by decide⟩
theorem cm_X11_change : gcm mX11_change 3 := ⟨wl_18, wl_1, by decide, by decide, by decide, by decide +kernel, by decide⟩
theorem cm_X12_change : gcm mX12_change 3 := ⟨wl_22, wl_6, by decide, by decide, by decide, by decide +kernel, by decide⟩
theorem cm_X11_remake : gcm mX11_remake 2 := ⟨wl_26, wl_1, by decide, by decide, by decide, by decide +kernel, by decide⟩
theorem cm_X12_remake : gcm mX12_remake 2 := ⟨wl_30, wl_6, by decide, by decide, by decide, by decide +kernel, by decide⟩
theorem cm_X11_sun : gcm mX11_sun 2 := ⟨wl_34, wl_1, by decide, by decide, by decide, by decide +kernel, by decide⟩
theorem cm_X12_sun : gcm mX12_sun 2 := ⟨wl_38, wl_6, by decide, by decide, by decide, by decide +kernel, by decide⟩
theorem cm_X11_gate : gcm mX11_gate 3 := ⟨wl_42, wl_1, by decide, by decide, by decide, by decide +kernel, by decide⟩
theorem cm_X12_gate : gcm mX12_gate 3 := ⟨wl_46, wl_6, by decide, by decide, by decide, by decide +kernel, by decide⟩
theorem cm_X11_gateOf : gcm mX11_gateOf 2 := ⟨wl_50, wl_1, by decide, by decide, by decide, by decide +kernel, by decide⟩
theorem cm_X12_gateOf : gcm mX12_gateOf 2 := ⟨wl_54, wl_6, by decide, by decide, by decide, by decide +kernel, by decide⟩
theorem cm_X11_ends : gcm mX11_ends 1 := ⟨wl_58, wl_1, by decide, by decide, by decide, by decide +kernel, by decide⟩
theorem cm_X12_ends : gcm mX12_ends 1 := ⟨wl_62, wl_6, by decide, by decide, by decide, by decide +kernel, by decide⟩
theorem cm_X11_anew : gcm mX11_anew 0 := ⟨wl_66, wl_1, by decide, by decide, by decide, by decide +kernel, by decide⟩
theorem cm_X12_anew : gcm mX12_anew 0 := ⟨wl_70, wl_6, by decide, by decide, by decide, by decide +kernel, by decide⟩
theorem cm_X11_state : gcm mX11_state 1 := ⟨wl_74, wl_1, by decide, by decide, by decide, by decide +kernel, by decide⟩
theorem cm_X12_state : gcm mX12_state 1 := ⟨wl_78, wl_6, by decide, by decide, by decide, by decide +kernel, by decide⟩
theorem cm_X11_feed : gcm mX11_feed 2 := ⟨wl_82, wl_1, by decide, by decide, by decide, by decide +kernel, by decide⟩
theorem cm_X12_feed : gcm mX12_feed 2 := ⟨wl_86, wl_6, by decide, by decide, by decide, by decide +kernel, by decide⟩
theorem cm_X11_rules : gcm mX11_rules 0 := ⟨wl_90, wl_1, by decide, by decide, by decide, by decide +kernel, by decide⟩
theorem cm_X12_rules : gcm mX12_rules 0 := ⟨wl_94, wl_6, by decide, by decide, by decide, by decide +kernel, by decide⟩
theorem cm_X11_halt : gcm mX11_halt 0 := ⟨wl_98, wl_1, by decide, by decide, by decide, by decide +kernel, by decide⟩
theorem cm_X12_halt : gcm mX12_halt 0 := ⟨wl_102, wl_6, by decide, by decide, by decide, by decide +kernel, by decide⟩
theorem cm_X11_on : gcm mX11_on 1 := ⟨wl_106, wl_1, by decide, by decide, by decide, by decide +kernel, by decide⟩
theorem cm_X12_on : gcm mX12_on 1 := ⟨wl_110, wl_6, by decide, by decide, by decide, by decide +kernel, by decide⟩
theorem cm_X11_when : gcm mX11_when 1 := ⟨wl_114, wl_1, by decide, by decide, by decide, by decide +kernel, by decide⟩
theorem cm_X12_when : gcm mX12_when 1 := ⟨wl_118, wl_6, by decide, by decide, by decide, by decide +kernel, by decide⟩
theorem cm_X11_strawFor : gcm mX11_strawFor 1 := ⟨wl_122, wl_1, by decide, by decide, by decide, by decide +kernel, by decide⟩
theorem cm_X12_strawFor : gcm mX12_strawFor 1 := ⟨wl_126, wl_6, by decide, by decide, by decide, by decide +kernel, by decide⟩
theorem cm_X11_gateFor : gcm mX11_gateFor 1 := ⟨wl_130, wl_1, by decide, by decide, by decide, by decide +kernel, by decide⟩
theorem cm_X12_gateFor : gcm mX12_gateFor 1 := ⟨wl_134, wl_6, by decide, by decide, by decide, by decide +kernel, by decide⟩
theorem cm_X11_gone : gcm mX11_gone 1 := ⟨wl_138, wl_1, by decide, by decide, by decide, by decide +kernel, by decide⟩
theorem cm_X12_gone : gcm mX12_gone 1 := ⟨wl_142, wl_6, by decide, by decide, by decide, by decide +kernel, by decide⟩
theorem cm_X11_opens : gcm mX11_opens 1 := ⟨wl_146, wl_1, by decide, by decide, by decide, by decide +kernel, by decide⟩
theorem cm_X12_opens : gcm mX12_opens 1 := ⟨wl_150, wl_6, by decide, by decide, by decide, by decide +kernel, by decide⟩
theorem cm_X11_left : gcm mX11_left 2 := ⟨wl_154, wl_1, by decide, by decide, by decide, by decide +kernel, by decide⟩
theorem cm_X12_left : gcm mX12_left 2 := ⟨wl_158, wl_6, by decide, by decide, by decide, by decide +kernel, by decide⟩
theorem cm_X11_bunches : gcm mX11_bunches 1 := ⟨wl_162, wl_1, by decide, by decide, by decide, by decide +kernel, by decide⟩
theorem cm_X12_bunches : gcm mX12_bunches 1 := ⟨wl_166, wl_6, by decide, by decide, by decide, by decide +kernel, by decide⟩
theorem cm_X11_best : gcm mX11_best 1 := ⟨wl_170, wl_1, by decide, by decide, by decide, by decide +kernel, by decide⟩
theorem cm_X12_best : gcm mX12_best 1 := ⟨wl_174, wl_6, by decide, by decide, by decide, by decide +kernel, by decide⟩
theorem cm_X11_ith : gcm mX11_ith 2 := ⟨wl_178, wl_1, by decide, by decide, by decide, by decide +kernel, by decide⟩
theorem cm_X12_ith : gcm mX12_ith 2 := ⟨wl_182, wl_6, by decide, by decide, by decide, by decide +kernel, by decide⟩
theorem cm_X11_ways : gcm mX11_ways 1 := ⟨wl_186, wl_1, by decide, by decide, by decide, by decide +kernel, by decide⟩
theorem cm_X12_ways : gcm mX12_ways 1 := ⟨wl_190, wl_6, by decide, by decide, by decide, by decide +kernel, by decide⟩
theorem cm_X11_order : gcm mX11_order 2 := ⟨wl_194, wl_1, by decide, by decide, by decide, by decide +kernel, by decide⟩
theorem cm_X12_order : gcm mX12_order 2 := ⟨wl_198, wl_6, by decide, by decide, by decide, by decide +kernel, by decide⟩
theorem cm_X11_bars : gcm mX11_bars 2 := ⟨wl_202, wl_1, by decide, by decide, by decide, by decide +kernel, by decide⟩
theorem cm_X12_bars : gcm mX12_bars 2 := ⟨wl_206, wl_6, by decide, by decide, by decide, by decide +kernel, by decide⟩
theorem cm_X11_game : gcm mX11_game 1 := ⟨wl_210, wl_1, by decide, by decide, by decide, by decide +kernel, by decide⟩
theorem cm_X12_game : gcm mX12_game 1 := ⟨wl_214, wl_6, by decide, by decide, by decide, by decide +kernel, by decide⟩
theorem cm_X11_play : gcm mX11_play 1 := ⟨wl_218, wl_1, by decide, by decide, by decide, by decide +kernel, by decide⟩
theorem cm_X12_play : gcm mX12_play 1 := ⟨wl_222, wl_6, by decide, by decide, by decide, by decide +kernel, by decide⟩
theorem cm_X11_report : gcm mX11_report 4 := ⟨wl_226, wl_1, by decide, by decide, by decide, by decide +kernel, by decide⟩
theorem cm_X12_report : gcm mX12_report 4 := ⟨wl_230, wl_6, by decide, by decide, by decide, by decide +kernel, by decide⟩
theorem cm_X11_forget : gcm mX11_forget 0 := ⟨wl_234, wl_1, by decide, by decide, by decide, by decide +kernel, by decide⟩
theorem cm_X12_forget : gcm mX12_forget 0 := ⟨wl_238, wl_6, by decide, by decide, by decide, by decide +kernel, by decide⟩
theorem cm_X11_lone : gcm mX11_lone 1 := ⟨wl_242, wl_1, by decide, by decide, by decide, by decide +kernel, by decide⟩
theorem cm_X12_lone : gcm mX12_lone 1 := ⟨wl_246, wl_6, by decide, by decide, by decide, by decide +kernel, by decide⟩
theorem cm_X11_liar : gcm mX11_liar 0 := ⟨wl_250, wl_1, by decide, by decide, by decide, by decide +kernel, by decide⟩
theorem cm_X12_liar : gcm mX12_liar 0 := ⟨wl_254, wl_6, by decide, by decide, by decide, by decide +kernel, by decide⟩
theorem cm_X11_seed : gcm mX11_seed 1 := ⟨wl_258, wl_1, by decide, by decide, by decide, by decide +kernel, by decide⟩
theorem cm_X12_seed : gcm mX12_seed 1 := ⟨wl_262, wl_6, by decide, by decide, by decide, by decide +kernel, by decide⟩
theorem cm_X11_lot : gcm mX11_lot 0 := ⟨wl_266, wl_1, by decide, by decide, by decide, by decide +kernel, by decide⟩
theorem cm_X12_lot : gcm mX12_lot 0 := ⟨wl_270, wl_6, by decide, by decide, by decide, by decide +kernel, by decide⟩
theorem cm_X11_times : gcm mX11_times 2 := ⟨wl_274, wl_1, by decide, by decide, by decide, by decide +kernel, by decide⟩
theorem cm_X12_times : gcm mX12_times 2 := ⟨wl_278, wl_6, by decide, by decide, by decide, by decide +kernel, by decide⟩
theorem cm_X11_prove : gcm mX11_prove 1 := ⟨wl_282, wl_1, by decide, by decide, by decide, by decide +kernel, by decide⟩
theorem cm_X12_prove : gcm mX12_prove 1 := ⟨wl_286, wl_6, by decide, by decide, by decide, by decide +kernel, by decide⟩
theorem cm_X11_row : gcm mX11_row 2 := ⟨wl_290, wl_1, by decide, by decide, by decide, by decide +kernel, by decide⟩
theorem cm_X12_row : gcm mX12_row 2 := ⟨wl_294, wl_6, by decide, by decide, by decide, by decide +kernel, by decide⟩
theorem cm_X11_alterRow : gcm mX11_alterRow 3 := ⟨wl_298, wl_1, by decide, by decide, by decide, by decide +kernel, by decide⟩
theorem cm_X12_alterRow : gcm mX12_alterRow 3 := ⟨wl_302, wl_6, by decide, by decide, by decide, by decide +kernel, by decide⟩
theorem cm_X11_judge : gcm mX11_judge 0 := ⟨wl_306, wl_1, by decide, by decide, by decide, by decide +kernel, by decide⟩
theorem cm_X12_judge : gcm mX12_judge 0 := ⟨wl_310, wl_6, by decide, by decide, by decide, by decide +kernel, by decide⟩
theorem cm_X11_sheet : gcm mX11_sheet 3 := ⟨wl_314, wl_1, by decide, by decide, by decide, by decide +kernel, by decide⟩
theorem cm_X12_sheet : gcm mX12_sheet 3 := ⟨wl_318, wl_6, by decide, by decide, by decide, by decide +kernel, by decide⟩
theorem cm_X11_write : gcm mX11_write 3 := ⟨wl_322, wl_1, by decide, by decide, by decide, by decide +kernel, by decide⟩
theorem cm_X12_write : gcm mX12_write 3 := ⟨wl_326, wl_6, by decide, by decide, by decide, by decide +kernel, by decide⟩
theorem cm_X11_item : gcm mX11_item 3 := ⟨wl_330, wl_1, by decide, by decide, by decide, by decide +kernel, by decide⟩
theorem cm_X12_item : gcm mX12_item 3 := ⟨wl_334, wl_6, by decide, by decide, by decide, by decide +kernel, by decide⟩
theorem cm_X11_goAll : gcm mX11_goAll 3 := ⟨wl_338, wl_1, by decide, by decide, by decide, by decide +kernel, by decide⟩
theorem cm_X12_goAll : gcm mX12_goAll 3 := ⟨wl_342, wl_6, by decide, by decide, by decide, by decide +kernel, by decide⟩
theorem cm_X11_wouldBe : gcm mX11_wouldBe 3 := ⟨wl_346, wl_1, by decide, by decide, by decide, by decide +kernel, by decide⟩
theorem cm_X12_wouldBe : gcm mX12_wouldBe 3 := ⟨wl_350, wl_6, by decide, by decide, by decide, by decide +kernel, by decide⟩
theorem cm_X11_shelf : gcm mX11_shelf 3 := ⟨wl_354, wl_1, by decide, by decide, by decide, by decide +kernel, by decide⟩
theorem cm_X12_shelf : gcm mX12_shelf 3 := ⟨wl_358, wl_6, by decide, by decide, by decide, by decide +kernel, by decide⟩
theorem cm_X11_taken : gcm mX11_taken 2 := ⟨wl_362, wl_1, by decide, by decide, by decide, by decide +kernel, by decide⟩
theorem cm_X12_taken : gcm mX12_taken 2 := ⟨wl_366, wl_6, by decide, by decide, by decide, by decide +kernel, by decide⟩
theorem cm_X11_act : gcm mX11_act 3 := ⟨wl_370, wl_1, by decide, by decide, by decide, by decide +kernel, by decide⟩
theorem cm_X12_act : gcm mX12_act 3 := ⟨wl_374, wl_6, by decide, by decide, by decide, by decide +kernel, by decide⟩
theorem cm_X11_trace : gcm mX11_trace 1 := ⟨wl_378, wl_1, by decide, by decide, by decide, by decide +kernel, by decide⟩
theorem cm_X12_trace : gcm mX12_trace 1 := ⟨wl_382, wl_6, by decide, by decide, by decide, by decide +kernel, by decide⟩
theorem cm_X11_many : gcm mX11_many 1 := ⟨wl_386, wl_1, by decide, by decide, by decide, by decide +kernel, by decide⟩
theorem cm_X12_many : gcm mX12_many 1 := ⟨wl_390, wl_6, by decide, by decide, by decide, by decide +kernel, by decide⟩
theorem cm_X11_keep : gcm mX11_keep 0 := ⟨wl_394, wl_1, by decide, by decide, by decide, by decide +kernel, by decide⟩
theorem cm_X12_keep : gcm mX12_keep 0 := ⟨wl_398, wl_6, by decide, by decide, by decide, by decide +kernel, by decide⟩
theorem cm_X11_again : gcm mX11_again 0 := ⟨wl_402, wl_1, by decide, by decide, by decide, by decide +kernel, by decide⟩
theorem cm_X12_again : gcm mX12_again 0 := ⟨wl_406, wl_6, by decide, by decide, by decide, by decide +kernel, by decide⟩
theorem cm_X11_init : gcm mX11_init 0 := ⟨wl_412, wl_1, by decide, by decide, by decide, by decide +kernel, by decide⟩
theorem cm_X12_init : gcm mX12_init 0 := ⟨wl_417, wl_6, by decide, by decide, by decide, by decide +kernel, by decide⟩
set_option maxRecDepth 100000 in
set_option maxHeartbeats 4000000 in
theorem law_end {p : Program} {l : Launch} {e : Env} {s : State} {m : MethodId} {below : List Frame} {meth : Method} {c : Code} {bs : Nat} {xs : Nat → Int32} {D : va_G} {cy : Nat → ClassId} (C0 : lw_At p s m meth c bs 5 xs) {H : Heap} {locs : List Loc} {ls : Array Slot} (hS : va_S (gA s.heap.size) s.heap H locs) (hl : lv_has ls 4 [(0, .ref bs), (1, .ref (s.heap.size + 0)), (2, .ref (s.heap.size + 67)), (3, .int 0)]) : W p l e room_1 s m #[Value.ref bs] below meth c H locs 88 3546 (lw_Z below #[Value.ref bs] s) (F0 m 1745 ls []) := by
  obtain ⟨hx, hb, hr, hml, hown, hts, hX, hbl, hlocks, hgv⟩ := C0
  have hbA : ¬ gA s.heap.size bs := Nat.not_le.mpr hbl
  refine lv_iinc (v := 5) (lv' := [(3, .int 5), (0, .ref bs), (1, .ref (s.heap.size + 0)), (2, .ref (s.heap.size + 67))]) hx hb dL_1745 hl (k := 3) rfl (by decide) (by decide) rfl (fun ls hl => ?_)
  refine lv_goto (tgt := 18) hx hb dL_1748 (by decide) ?_
  refine lv_iload_n hx hb dL_18 rfl (lv_at hl 0 rfl) ?_
  refine lv_aload_n hx hb dL_19 rfl (lv_at hl 1 rfl) ?_
  refine va_slen hx hb hX hbl hbA hS dL_20 ?_
  refine lv_iconst (v := 5) hx hb dL_21 (by decide) ?_
  refine lv_isub hx hb dL_22 ?_
  refine lv_icmp_gt (tgt := 1751) hx hb dL_23 (by decide) (fun _ => ?_) (fun z => absurd (by decide) z)
  refine lv_iconst (v := 1) hx hb dL_1751 (by decide) ?_
  refine va_forget (fun q hq => hS.2.2 q hq) ?_
  refine W.widen (k := 600000) (n := 7302250) (by decide) (by decide) ?_
  exact lw_ret hx hb hr hlocks dL_1752
set_option maxRecDepth 100000 in
set_option maxHeartbeats 4000000 in
theorem law_0_key {p : Program} {l : Launch} {e : Env} {s : State} {m : MethodId} {below : List Frame} {meth : Method} {c : Code} {bs : Nat} {xs : Nat → Int32} {D : va_G} {cy : Nat → ClassId} (C0 : lw_At p s m meth c bs 5 xs) (hF : gFx s.heap.size D cy s) {H : Heap} {locs : List Loc} {ls : Array Slot} (hS : va_S (gA s.heap.size) s.heap H locs) (hW : gWd s.heap.size D cy (SH0, RF0, I0) H) (hl : lv_has ls 4 [(0, .ref bs), (1, .ref (s.heap.size + 0)), (2, .ref (s.heap.size + 67)), (3, .int 0)]) : W p l e room_1 s m #[Value.ref bs] below meth c H locs 88 3546 (lw_Z below #[Value.ref bs] s) (F0 m 252 ls []) := by
  obtain ⟨hx, hb, hr, hml, hown, hts, hX, hbl, hlocks, hgv⟩ := id C0
  have hbA : ¬ gA s.heap.size bs := Nat.not_le.mpr hbl
  refine lv_aload_n hx hb dL_252 rfl (lv_at hl 1 rfl) ?_
  refine lv_aload_n hx hb dL_253 rfl (lv_at hl 0 rfl) ?_
  refine lv_iload_n hx hb dL_254 rfl (lv_at hl 3 rfl) ?_
  refine lv_iconst (v := 1) hx hb dL_255 (by decide) ?_
  refine lv_iadd hx hb dL_256 ?_
  refine va_sld hx hb hX hbl hbA hS (by unfold vp_in; decide) dL_257 ?_
  refine lv_aload_n hx hb dL_258 rfl (lv_at hl 0 rfl) ?_
  refine lv_iload_n hx hb dL_259 rfl (lv_at hl 3 rfl) ?_
  refine lv_iconst (v := 2) hx hb dL_260 (by decide) ?_
  refine lv_iadd hx hb dL_261 ?_
  refine va_sld hx hb hX hbl hbA hS (by unfold vp_in; decide) dL_262 ?_
  refine lv_aload_n hx hb dL_263 rfl (lv_at hl 0 rfl) ?_
  refine lv_iload_n hx hb dL_264 rfl (lv_at hl 3 rfl) ?_
  refine lv_iconst (v := 3) hx hb dL_265 (by decide) ?_
  refine lv_iadd hx hb dL_266 ?_
  refine va_sld hx hb hX hbl hbA hS (by unfold vp_in; decide) dL_267 ?_
  refine lv_aload_n hx hb dL_268 rfl (lv_at hl 0 rfl) ?_
  refine lv_iload_n hx hb dL_269 rfl (lv_at hl 3 rfl) ?_
  refine lv_iconst (v := 4) hx hb dL_270 (by decide) ?_
  refine lv_iadd hx hb dL_271 ?_
  refine va_sld hx hb hX hbl hbA hS (by unfold vp_in; decide) dL_272 ?_
  refine law_call (mc1 := 0) (ms1 := 0) (ci := 11) (x := 0) (mj := mX11_key) (vs := [.int _, .int _, .int _, .int _]) (S := []) (d := 0 + 2) hx hb hml hown hts hF hS hW hl dL_273 rfl rfl cm_X11_key wl_2 wl_3 wl_4 rfl (Nat.le_of_ble_eq_true rfl) (Nat.le_of_ble_eq_true rfl) (Nat.le_of_ble_eq_true rfl) (Nat.le_of_ble_eq_true rfl) (Nat.le_of_ble_eq_true rfl) (x_key 0 _ _ _ _) ?_
  rintro _ _ H locs ⟨I1, rfl, rfl, hfar⟩ hW hS
  rw [gmx_eq hfar] at hW
  dsimp only [Option.map, Option.toList, List.cons_append, List.nil_append, gtr]
  refine lv_aload_n hx hb dL_276 rfl (lv_at hl 2 rfl) ?_
  refine lv_aload_n hx hb dL_277 rfl (lv_at hl 0 rfl) ?_
  refine lv_iload_n hx hb dL_278 rfl (lv_at hl 3 rfl) ?_
  refine lv_iconst (v := 1) hx hb dL_279 (by decide) ?_
  refine lv_iadd hx hb dL_280 ?_
  refine va_sld hx hb hX hbl hbA hS (by unfold vp_in; decide) dL_281 ?_
  refine lv_aload_n hx hb dL_282 rfl (lv_at hl 0 rfl) ?_
  refine lv_iload_n hx hb dL_283 rfl (lv_at hl 3 rfl) ?_
  refine lv_iconst (v := 2) hx hb dL_284 (by decide) ?_
  refine lv_iadd hx hb dL_285 ?_
  refine va_sld hx hb hX hbl hbA hS (by unfold vp_in; decide) dL_286 ?_
  refine lv_aload_n hx hb dL_287 rfl (lv_at hl 0 rfl) ?_
  refine lv_iload_n hx hb dL_288 rfl (lv_at hl 3 rfl) ?_
  refine lv_iconst (v := 3) hx hb dL_289 (by decide) ?_
  refine lv_iadd hx hb dL_290 ?_
  refine va_sld hx hb hX hbl hbA hS (by unfold vp_in; decide) dL_291 ?_
  refine lv_aload_n hx hb dL_292 rfl (lv_at hl 0 rfl) ?_
  refine lv_iload_n hx hb dL_293 rfl (lv_at hl 3 rfl) ?_
  refine lv_iconst (v := 4) hx hb dL_294 (by decide) ?_
  refine lv_iadd hx hb dL_295 ?_
  refine va_sld hx hb hX hbl hbA hS (by unfold vp_in; decide) dL_296 ?_
  refine law_call (mc1 := 0) (ms1 := 0) (ci := 12) (x := 67) (mj := mX12_key) (vs := [.int _, .int _, .int _, .int _]) (S := [.int _]) (d := 0 + 2) hx hb hml hown hts hF hS hW hl dL_297 rfl rfl cm_X12_key wl_7 wl_8 wl_9 rfl (Nat.le_of_ble_eq_true rfl) (Nat.le_of_ble_eq_true rfl) (Nat.le_of_ble_eq_true rfl) (Nat.le_of_ble_eq_true rfl) (Nat.le_of_ble_eq_true rfl) (z_key I1 0 _ _ _ _) ?_
  rintro _ h2 H locs rfl hW hS
  dsimp only [Option.map, Option.toList, List.cons_append, List.nil_append, gtr]
  refine lv_icmp_eq (tgt := 1745) hx hb dL_300 (by decide) (fun _ => ?_) (fun z => absurd rfl z)
  exact law_end C0 hS hl
set_option maxRecDepth 100000 in
set_option maxHeartbeats 4000000 in
theorem law_1_keyOf {p : Program} {l : Launch} {e : Env} {s : State} {m : MethodId} {below : List Frame} {meth : Method} {c : Code} {bs : Nat} {xs : Nat → Int32} {D : va_G} {cy : Nat → ClassId} (C0 : lw_At p s m meth c bs 5 xs) (hF : gFx s.heap.size D cy s) {H : Heap} {locs : List Loc} {ls : Array Slot} (hS : va_S (gA s.heap.size) s.heap H locs) (hW : gWd s.heap.size D cy (SH0, RF0, I0) H) (hl : lv_has ls 4 [(0, .ref bs), (1, .ref (s.heap.size + 0)), (2, .ref (s.heap.size + 67)), (3, .int 0)]) : W p l e room_1 s m #[Value.ref bs] below meth c H locs 88 3546 (lw_Z below #[Value.ref bs] s) (F0 m 305 ls []) := by
  obtain ⟨hx, hb, hr, hml, hown, hts, hX, hbl, hlocks, hgv⟩ := id C0
  have hbA : ¬ gA s.heap.size bs := Nat.not_le.mpr hbl
  refine lv_aload_n hx hb dL_305 rfl (lv_at hl 1 rfl) ?_
  refine lv_aload_n hx hb dL_306 rfl (lv_at hl 0 rfl) ?_
  refine lv_iload_n hx hb dL_307 rfl (lv_at hl 3 rfl) ?_
  refine lv_iconst (v := 1) hx hb dL_308 (by decide) ?_
  refine lv_iadd hx hb dL_309 ?_
  refine va_sld hx hb hX hbl hbA hS (by unfold vp_in; decide) dL_310 ?_
  refine lv_aload_n hx hb dL_311 rfl (lv_at hl 0 rfl) ?_
  refine lv_iload_n hx hb dL_312 rfl (lv_at hl 3 rfl) ?_
  refine lv_iconst (v := 2) hx hb dL_313 (by decide) ?_
  refine lv_iadd hx hb dL_314 ?_
  refine va_sld hx hb hX hbl hbA hS (by unfold vp_in; decide) dL_315 ?_
  refine law_call (mc1 := 0) (ms1 := 0) (ci := 11) (x := 0) (mj := mX11_keyOf) (vs := [.int _, .int _]) (S := []) (d := 0 + 1) hx hb hml hown hts hF hS hW hl dL_316 rfl rfl cm_X11_keyOf wl_11 wl_12 wl_13 rfl (Nat.le_of_ble_eq_true rfl) (Nat.le_of_ble_eq_true rfl) (Nat.le_of_ble_eq_true rfl) (Nat.le_of_ble_eq_true rfl) (Nat.le_of_ble_eq_true rfl) (x_keyOf 0 _ _) ?_
  rintro _ _ H locs ⟨I1, rfl, rfl, hfar⟩ hW hS
  rw [gmx_eq hfar] at hW
  dsimp only [Option.map, Option.toList, List.cons_append, List.nil_append, gtr]
  refine lv_aload_n hx hb dL_319 rfl (lv_at hl 2 rfl) ?_
  refine lv_aload_n hx hb dL_320 rfl (lv_at hl 0 rfl) ?_
  refine lv_iload_n hx hb dL_321 rfl (lv_at hl 3 rfl) ?_
  refine lv_iconst (v := 1) hx hb dL_322 (by decide) ?_
  refine lv_iadd hx hb dL_323 ?_
  refine va_sld hx hb hX hbl hbA hS (by unfold vp_in; decide) dL_324 ?_
  refine lv_aload_n hx hb dL_325 rfl (lv_at hl 0 rfl) ?_
  refine lv_iload_n hx hb dL_326 rfl (lv_at hl 3 rfl) ?_
  refine lv_iconst (v := 2) hx hb dL_327 (by decide) ?_
  refine lv_iadd hx hb dL_328 ?_
  refine va_sld hx hb hX hbl hbA hS (by unfold vp_in; decide) dL_329 ?_
  refine law_call (mc1 := 0) (ms1 := 0) (ci := 12) (x := 67) (mj := mX12_keyOf) (vs := [.int _, .int _]) (S := [.int _]) (d := 0 + 2) hx hb hml hown hts hF hS hW hl dL_330 rfl rfl cm_X12_keyOf wl_15 wl_16 wl_17 rfl (Nat.le_of_ble_eq_true rfl) (Nat.le_of_ble_eq_true rfl) (Nat.le_of_ble_eq_true rfl) (Nat.le_of_ble_eq_true rfl) (Nat.le_of_ble_eq_true rfl) (z_keyOf I1 0 _ _) ?_
  rintro _ h2 H locs rfl hW hS
  dsimp only [Option.map, Option.toList, List.cons_append, List.nil_append, gtr]
  refine lv_icmp_eq (tgt := 1745) hx hb dL_333 (by decide) (fun _ => ?_) (fun z => absurd rfl z)
  exact law_end C0 hS hl
set_option maxRecDepth 100000 in
set_option maxHeartbeats 4000000 in
theorem law_2_change {p : Program} {l : Launch} {e : Env} {s : State} {m : MethodId} {below : List Frame} {meth : Method} {c : Code} {bs : Nat} {xs : Nat → Int32} {D : va_G} {cy : Nat → ClassId} (C0 : lw_At p s m meth c bs 5 xs) (hF : gFx s.heap.size D cy s) {H : Heap} {locs : List Loc} {ls : Array Slot} (hS : va_S (gA s.heap.size) s.heap H locs) (hW : gWd s.heap.size D cy (SH0, RF0, I0) H) (hl : lv_has ls 4 [(0, .ref bs), (1, .ref (s.heap.size + 0)), (2, .ref (s.heap.size + 67)), (3, .int 0)]) : W p l e room_1 s m #[Value.ref bs] below meth c H locs 88 3546 (lw_Z below #[Value.ref bs] s) (F0 m 338 ls []) := by
  obtain ⟨hx, hb, hr, hml, hown, hts, hX, hbl, hlocks, hgv⟩ := id C0
  have hbA : ¬ gA s.heap.size bs := Nat.not_le.mpr hbl
  refine lv_aload_n hx hb dL_338 rfl (lv_at hl 1 rfl) ?_
  refine lv_aload_n hx hb dL_339 rfl (lv_at hl 0 rfl) ?_
  refine lv_iload_n hx hb dL_340 rfl (lv_at hl 3 rfl) ?_
  refine lv_iconst (v := 1) hx hb dL_341 (by decide) ?_
  refine lv_iadd hx hb dL_342 ?_
  refine va_sld hx hb hX hbl hbA hS (by unfold vp_in; decide) dL_343 ?_
  refine lv_aload_n hx hb dL_344 rfl (lv_at hl 0 rfl) ?_
  refine lv_iload_n hx hb dL_345 rfl (lv_at hl 3 rfl) ?_
  refine lv_iconst (v := 2) hx hb dL_346 (by decide) ?_
  refine lv_iadd hx hb dL_347 ?_
  refine va_sld hx hb hX hbl hbA hS (by unfold vp_in; decide) dL_348 ?_
  refine lv_aload_n hx hb dL_349 rfl (lv_at hl 0 rfl) ?_
  refine lv_iload_n hx hb dL_350 rfl (lv_at hl 3 rfl) ?_
  refine lv_iconst (v := 3) hx hb dL_351 (by decide) ?_
  refine lv_iadd hx hb dL_352 ?_
  refine va_sld hx hb hX hbl hbA hS (by unfold vp_in; decide) dL_353 ?_
  refine law_call (mc1 := 0) (ms1 := 0) (ci := 11) (x := 0) (mj := mX11_change) (vs := [.int _, .int _, .int _]) (S := []) (d := 0 + 1) hx hb hml hown hts hF hS hW hl dL_354 rfl rfl cm_X11_change wl_19 wl_20 wl_21 rfl (Nat.le_of_ble_eq_true rfl) (Nat.le_of_ble_eq_true rfl) (Nat.le_of_ble_eq_true rfl) (Nat.le_of_ble_eq_true rfl) (Nat.le_of_ble_eq_true rfl) (x_change 0 _ _ _) ?_
  rintro _ _ H locs ⟨I1, rfl, rfl, hfar⟩ hW hS
  rw [gmx_eq hfar] at hW
  dsimp only [Option.map, Option.toList, List.cons_append, List.nil_append, gtr]
  refine lv_aload_n hx hb dL_357 rfl (lv_at hl 2 rfl) ?_
  refine lv_aload_n hx hb dL_358 rfl (lv_at hl 0 rfl) ?_
  refine lv_iload_n hx hb dL_359 rfl (lv_at hl 3 rfl) ?_
  refine lv_iconst (v := 1) hx hb dL_360 (by decide) ?_
  refine lv_iadd hx hb dL_361 ?_
  refine va_sld hx hb hX hbl hbA hS (by unfold vp_in; decide) dL_362 ?_
  refine lv_aload_n hx hb dL_363 rfl (lv_at hl 0 rfl) ?_
  refine lv_iload_n hx hb dL_364 rfl (lv_at hl 3 rfl) ?_
  refine lv_iconst (v := 2) hx hb dL_365 (by decide) ?_
  refine lv_iadd hx hb dL_366 ?_
  refine va_sld hx hb hX hbl hbA hS (by unfold vp_in; decide) dL_367 ?_
  refine lv_aload_n hx hb dL_368 rfl (lv_at hl 0 rfl) ?_
  refine lv_iload_n hx hb dL_369 rfl (lv_at hl 3 rfl) ?_
  refine lv_iconst (v := 3) hx hb dL_370 (by decide) ?_
  refine lv_iadd hx hb dL_371 ?_
  refine va_sld hx hb hX hbl hbA hS (by unfold vp_in; decide) dL_372 ?_
  refine law_call (mc1 := 0) (ms1 := 0) (ci := 12) (x := 67) (mj := mX12_change) (vs := [.int _, .int _, .int _]) (S := [.int _]) (d := 0 + 2) hx hb hml hown hts hF hS hW hl dL_373 rfl rfl cm_X12_change wl_23 wl_24 wl_25 rfl (Nat.le_of_ble_eq_true rfl) (Nat.le_of_ble_eq_true rfl) (Nat.le_of_ble_eq_true rfl) (Nat.le_of_ble_eq_true rfl) (Nat.le_of_ble_eq_true rfl) (z_change I1 0 _ _ _) ?_
  rintro _ h2 H locs rfl hW hS
  dsimp only [Option.map, Option.toList, List.cons_append, List.nil_append, gtr]
  refine lv_icmp_eq (tgt := 1745) hx hb dL_376 (by decide) (fun _ => ?_) (fun z => absurd rfl z)
  exact law_end C0 hS hl
set_option maxRecDepth 100000 in
set_option maxHeartbeats 4000000 in
theorem law_3_remake {p : Program} {l : Launch} {e : Env} {s : State} {m : MethodId} {below : List Frame} {meth : Method} {c : Code} {bs : Nat} {xs : Nat → Int32} {D : va_G} {cy : Nat → ClassId} (C0 : lw_At p s m meth c bs 5 xs) (hF : gFx s.heap.size D cy s) {H : Heap} {locs : List Loc} {ls : Array Slot} (hS : va_S (gA s.heap.size) s.heap H locs) (hW : gWd s.heap.size D cy (SH0, RF0, I0) H) (hl : lv_has ls 4 [(0, .ref bs), (1, .ref (s.heap.size + 0)), (2, .ref (s.heap.size + 67)), (3, .int 0)]) : W p l e room_1 s m #[Value.ref bs] below meth c H locs 88 3546 (lw_Z below #[Value.ref bs] s) (F0 m 381 ls []) := by
  obtain ⟨hx, hb, hr, hml, hown, hts, hX, hbl, hlocks, hgv⟩ := id C0
  have hbA : ¬ gA s.heap.size bs := Nat.not_le.mpr hbl
  refine lv_aload_n hx hb dL_381 rfl (lv_at hl 1 rfl) ?_
  refine lv_aload_n hx hb dL_382 rfl (lv_at hl 0 rfl) ?_
  refine lv_iload_n hx hb dL_383 rfl (lv_at hl 3 rfl) ?_
  refine lv_iconst (v := 1) hx hb dL_384 (by decide) ?_
  refine lv_iadd hx hb dL_385 ?_
  refine va_sld hx hb hX hbl hbA hS (by unfold vp_in; decide) dL_386 ?_
  refine lv_aload_n hx hb dL_387 rfl (lv_at hl 0 rfl) ?_
  refine lv_iload_n hx hb dL_388 rfl (lv_at hl 3 rfl) ?_
  refine lv_iconst (v := 2) hx hb dL_389 (by decide) ?_
  refine lv_iadd hx hb dL_390 ?_
  refine va_sld hx hb hX hbl hbA hS (by unfold vp_in; decide) dL_391 ?_
  refine law_call (mc1 := 0) (ms1 := 0) (ci := 11) (x := 0) (mj := mX11_remake) (vs := [.int _, .int _]) (S := []) (d := 0 + 1) hx hb hml hown hts hF hS hW hl dL_392 rfl rfl cm_X11_remake wl_27 wl_28 wl_29 rfl (Nat.le_of_ble_eq_true rfl) (Nat.le_of_ble_eq_true rfl) (Nat.le_of_ble_eq_true rfl) (Nat.le_of_ble_eq_true rfl) (Nat.le_of_ble_eq_true rfl) (x_remake 0 _ _) ?_
  rintro _ _ H locs ⟨I1, rfl, rfl, hfar⟩ hW hS
  rw [gmx_eq hfar] at hW
  dsimp only [Option.map, Option.toList, List.cons_append, List.nil_append, gtr]
  refine lv_aload_n hx hb dL_395 rfl (lv_at hl 2 rfl) ?_
  refine lv_aload_n hx hb dL_396 rfl (lv_at hl 0 rfl) ?_
  refine lv_iload_n hx hb dL_397 rfl (lv_at hl 3 rfl) ?_
  refine lv_iconst (v := 1) hx hb dL_398 (by decide) ?_
  refine lv_iadd hx hb dL_399 ?_
  refine va_sld hx hb hX hbl hbA hS (by unfold vp_in; decide) dL_400 ?_
  refine lv_aload_n hx hb dL_401 rfl (lv_at hl 0 rfl) ?_
  refine lv_iload_n hx hb dL_402 rfl (lv_at hl 3 rfl) ?_
  refine lv_iconst (v := 2) hx hb dL_403 (by decide) ?_
  refine lv_iadd hx hb dL_404 ?_
  refine va_sld hx hb hX hbl hbA hS (by unfold vp_in; decide) dL_405 ?_
  refine law_call (mc1 := 0) (ms1 := 0) (ci := 12) (x := 67) (mj := mX12_remake) (vs := [.int _, .int _]) (S := [.int _]) (d := 0 + 2) hx hb hml hown hts hF hS hW hl dL_406 rfl rfl cm_X12_remake wl_31 wl_32 wl_33 rfl (Nat.le_of_ble_eq_true rfl) (Nat.le_of_ble_eq_true rfl) (Nat.le_of_ble_eq_true rfl) (Nat.le_of_ble_eq_true rfl) (Nat.le_of_ble_eq_true rfl) (z_remake I1 0 _ _) ?_
  rintro _ h2 H locs rfl hW hS
  dsimp only [Option.map, Option.toList, List.cons_append, List.nil_append, gtr]
  refine lv_icmp_eq (tgt := 1745) hx hb dL_409 (by decide) (fun _ => ?_) (fun z => absurd rfl z)
  exact law_end C0 hS hl
set_option maxRecDepth 100000 in
set_option maxHeartbeats 4000000 in
theorem law_4_sun {p : Program} {l : Launch} {e : Env} {s : State} {m : MethodId} {below : List Frame} {meth : Method} {c : Code} {bs : Nat} {xs : Nat → Int32} {D : va_G} {cy : Nat → ClassId} (C0 : lw_At p s m meth c bs 5 xs) (hF : gFx s.heap.size D cy s) {H : Heap} {locs : List Loc} {ls : Array Slot} (hS : va_S (gA s.heap.size) s.heap H locs) (hW : gWd s.heap.size D cy (SH0, RF0, I0) H) (hl : lv_has ls 4 [(0, .ref bs), (1, .ref (s.heap.size + 0)), (2, .ref (s.heap.size + 67)), (3, .int 0)]) : W p l e room_1 s m #[Value.ref bs] below meth c H locs 88 3546 (lw_Z below #[Value.ref bs] s) (F0 m 414 ls []) := by
  obtain ⟨hx, hb, hr, hml, hown, hts, hX, hbl, hlocks, hgv⟩ := id C0
  have hbA : ¬ gA s.heap.size bs := Nat.not_le.mpr hbl
  refine lv_aload_n hx hb dL_414 rfl (lv_at hl 1 rfl) ?_
  refine lv_aload_n hx hb dL_415 rfl (lv_at hl 0 rfl) ?_
  refine lv_iload_n hx hb dL_416 rfl (lv_at hl 3 rfl) ?_
  refine lv_iconst (v := 1) hx hb dL_417 (by decide) ?_
  refine lv_iadd hx hb dL_418 ?_
  refine va_sld hx hb hX hbl hbA hS (by unfold vp_in; decide) dL_419 ?_
  refine lv_aload_n hx hb dL_420 rfl (lv_at hl 0 rfl) ?_
  refine lv_iload_n hx hb dL_421 rfl (lv_at hl 3 rfl) ?_
  refine lv_iconst (v := 2) hx hb dL_422 (by decide) ?_
  refine lv_iadd hx hb dL_423 ?_
  refine va_sld hx hb hX hbl hbA hS (by unfold vp_in; decide) dL_424 ?_
  refine law_call (mc1 := 0) (ms1 := 0) (ci := 11) (x := 0) (mj := mX11_sun) (vs := [.int _, .int _]) (S := []) (d := 0 + 2) hx hb hml hown hts hF hS hW hl dL_425 rfl rfl cm_X11_sun wl_35 wl_36 wl_37 rfl (Nat.le_of_ble_eq_true rfl) (Nat.le_of_ble_eq_true rfl) (Nat.le_of_ble_eq_true rfl) (Nat.le_of_ble_eq_true rfl) (Nat.le_of_ble_eq_true rfl) (x_sun 0 _ _) ?_
  rintro _ _ H locs ⟨I1, rfl, rfl, hfar⟩ hW hS
  rw [gmx_eq hfar] at hW
  dsimp only [Option.map, Option.toList, List.cons_append, List.nil_append, gtr]
  refine lv_aload_n hx hb dL_428 rfl (lv_at hl 2 rfl) ?_
  refine lv_aload_n hx hb dL_429 rfl (lv_at hl 0 rfl) ?_
  refine lv_iload_n hx hb dL_430 rfl (lv_at hl 3 rfl) ?_
  refine lv_iconst (v := 1) hx hb dL_431 (by decide) ?_
  refine lv_iadd hx hb dL_432 ?_
  refine va_sld hx hb hX hbl hbA hS (by unfold vp_in; decide) dL_433 ?_
  refine lv_aload_n hx hb dL_434 rfl (lv_at hl 0 rfl) ?_
  refine lv_iload_n hx hb dL_435 rfl (lv_at hl 3 rfl) ?_
  refine lv_iconst (v := 2) hx hb dL_436 (by decide) ?_
  refine lv_iadd hx hb dL_437 ?_
  refine va_sld hx hb hX hbl hbA hS (by unfold vp_in; decide) dL_438 ?_
  refine law_call (mc1 := 0) (ms1 := 0) (ci := 12) (x := 67) (mj := mX12_sun) (vs := [.int _, .int _]) (S := [.int _]) (d := 0 + 1) hx hb hml hown hts hF hS hW hl dL_439 rfl rfl cm_X12_sun wl_39 wl_40 wl_41 rfl (Nat.le_of_ble_eq_true rfl) (Nat.le_of_ble_eq_true rfl) (Nat.le_of_ble_eq_true rfl) (Nat.le_of_ble_eq_true rfl) (Nat.le_of_ble_eq_true rfl) (z_sun I1 0 _ _) ?_
  rintro _ h2 H locs rfl hW hS
  dsimp only [Option.map, Option.toList, List.cons_append, List.nil_append, gtr]
  refine lv_icmp_eq (tgt := 1745) hx hb dL_442 (by decide) (fun _ => ?_) (fun z => absurd rfl z)
  exact law_end C0 hS hl
set_option maxRecDepth 100000 in
set_option maxHeartbeats 4000000 in
theorem law_5_gate {p : Program} {l : Launch} {e : Env} {s : State} {m : MethodId} {below : List Frame} {meth : Method} {c : Code} {bs : Nat} {xs : Nat → Int32} {D : va_G} {cy : Nat → ClassId} (C0 : lw_At p s m meth c bs 5 xs) (hF : gFx s.heap.size D cy s) {H : Heap} {locs : List Loc} {ls : Array Slot} (hS : va_S (gA s.heap.size) s.heap H locs) (hW : gWd s.heap.size D cy (SH0, RF0, I0) H) (hl : lv_has ls 4 [(0, .ref bs), (1, .ref (s.heap.size + 0)), (2, .ref (s.heap.size + 67)), (3, .int 0)]) : W p l e room_1 s m #[Value.ref bs] below meth c H locs 88 3546 (lw_Z below #[Value.ref bs] s) (F0 m 447 ls []) := by
  obtain ⟨hx, hb, hr, hml, hown, hts, hX, hbl, hlocks, hgv⟩ := id C0
  have hbA : ¬ gA s.heap.size bs := Nat.not_le.mpr hbl
  refine lv_aload_n hx hb dL_447 rfl (lv_at hl 1 rfl) ?_
  refine lv_aload_n hx hb dL_448 rfl (lv_at hl 0 rfl) ?_
  refine lv_iload_n hx hb dL_449 rfl (lv_at hl 3 rfl) ?_
  refine lv_iconst (v := 1) hx hb dL_450 (by decide) ?_
  refine lv_iadd hx hb dL_451 ?_
  refine va_sld hx hb hX hbl hbA hS (by unfold vp_in; decide) dL_452 ?_
  refine lv_aload_n hx hb dL_453 rfl (lv_at hl 0 rfl) ?_
  refine lv_iload_n hx hb dL_454 rfl (lv_at hl 3 rfl) ?_
  refine lv_iconst (v := 2) hx hb dL_455 (by decide) ?_
  refine lv_iadd hx hb dL_456 ?_
  refine va_sld hx hb hX hbl hbA hS (by unfold vp_in; decide) dL_457 ?_
  refine lv_aload_n hx hb dL_458 rfl (lv_at hl 0 rfl) ?_
  refine lv_iload_n hx hb dL_459 rfl (lv_at hl 3 rfl) ?_
  refine lv_iconst (v := 3) hx hb dL_460 (by decide) ?_
  refine lv_iadd hx hb dL_461 ?_
  refine va_sld hx hb hX hbl hbA hS (by unfold vp_in; decide) dL_462 ?_
  refine law_call (mc1 := 0) (ms1 := 0) (ci := 11) (x := 0) (mj := mX11_gate) (vs := [.int _, .int _, .int _]) (S := []) (d := 0 + 2) hx hb hml hown hts hF hS hW hl dL_463 rfl rfl cm_X11_gate wl_43 wl_44 wl_45 rfl (Nat.le_of_ble_eq_true rfl) (Nat.le_of_ble_eq_true rfl) (Nat.le_of_ble_eq_true rfl) (Nat.le_of_ble_eq_true rfl) (Nat.le_of_ble_eq_true rfl) (x_gate 0 _ _ _) ?_
  rintro _ _ H locs ⟨I1, rfl, rfl, hfar⟩ hW hS
  rw [gmx_eq hfar] at hW
  dsimp only [Option.map, Option.toList, List.cons_append, List.nil_append, gtr]
  refine lv_aload_n hx hb dL_466 rfl (lv_at hl 2 rfl) ?_
  refine lv_aload_n hx hb dL_467 rfl (lv_at hl 0 rfl) ?_
  refine lv_iload_n hx hb dL_468 rfl (lv_at hl 3 rfl) ?_
  refine lv_iconst (v := 1) hx hb dL_469 (by decide) ?_
  refine lv_iadd hx hb dL_470 ?_
  refine va_sld hx hb hX hbl hbA hS (by unfold vp_in; decide) dL_471 ?_
  refine lv_aload_n hx hb dL_472 rfl (lv_at hl 0 rfl) ?_
  refine lv_iload_n hx hb dL_473 rfl (lv_at hl 3 rfl) ?_
  refine lv_iconst (v := 2) hx hb dL_474 (by decide) ?_
  refine lv_iadd hx hb dL_475 ?_
  refine va_sld hx hb hX hbl hbA hS (by unfold vp_in; decide) dL_476 ?_
  refine lv_aload_n hx hb dL_477 rfl (lv_at hl 0 rfl) ?_
  refine lv_iload_n hx hb dL_478 rfl (lv_at hl 3 rfl) ?_
  refine lv_iconst (v := 3) hx hb dL_479 (by decide) ?_
  refine lv_iadd hx hb dL_480 ?_
  refine va_sld hx hb hX hbl hbA hS (by unfold vp_in; decide) dL_481 ?_
  refine law_call (mc1 := 0) (ms1 := 0) (ci := 12) (x := 67) (mj := mX12_gate) (vs := [.int _, .int _, .int _]) (S := [.int _]) (d := 0 + 2) hx hb hml hown hts hF hS hW hl dL_482 rfl rfl cm_X12_gate wl_47 wl_48 wl_49 rfl (Nat.le_of_ble_eq_true rfl) (Nat.le_of_ble_eq_true rfl) (Nat.le_of_ble_eq_true rfl) (Nat.le_of_ble_eq_true rfl) (Nat.le_of_ble_eq_true rfl) (z_gate I1 0 _ _ _) ?_
  rintro _ h2 H locs rfl hW hS
  dsimp only [Option.map, Option.toList, List.cons_append, List.nil_append, gtr]
  refine lv_icmp_eq (tgt := 1745) hx hb dL_485 (by decide) (fun _ => ?_) (fun z => absurd rfl z)
  exact law_end C0 hS hl
set_option maxRecDepth 100000 in
set_option maxHeartbeats 4000000 in
theorem law_6_gateOf {p : Program} {l : Launch} {e : Env} {s : State} {m : MethodId} {below : List Frame} {meth : Method} {c : Code} {bs : Nat} {xs : Nat → Int32} {D : va_G} {cy : Nat → ClassId} (C0 : lw_At p s m meth c bs 5 xs) (hF : gFx s.heap.size D cy s) {H : Heap} {locs : List Loc} {ls : Array Slot} (hS : va_S (gA s.heap.size) s.heap H locs) (hW : gWd s.heap.size D cy (SH0, RF0, I0) H) (hl : lv_has ls 4 [(0, .ref bs), (1, .ref (s.heap.size + 0)), (2, .ref (s.heap.size + 67)), (3, .int 0)]) : W p l e room_1 s m #[Value.ref bs] below meth c H locs 88 3546 (lw_Z below #[Value.ref bs] s) (F0 m 490 ls []) := by
  obtain ⟨hx, hb, hr, hml, hown, hts, hX, hbl, hlocks, hgv⟩ := id C0
  have hbA : ¬ gA s.heap.size bs := Nat.not_le.mpr hbl
  refine lv_aload_n hx hb dL_490 rfl (lv_at hl 1 rfl) ?_
  refine lv_aload_n hx hb dL_491 rfl (lv_at hl 0 rfl) ?_
  refine lv_iload_n hx hb dL_492 rfl (lv_at hl 3 rfl) ?_
  refine lv_iconst (v := 1) hx hb dL_493 (by decide) ?_
  refine lv_iadd hx hb dL_494 ?_
  refine va_sld hx hb hX hbl hbA hS (by unfold vp_in; decide) dL_495 ?_
  refine lv_aload_n hx hb dL_496 rfl (lv_at hl 0 rfl) ?_
  refine lv_iload_n hx hb dL_497 rfl (lv_at hl 3 rfl) ?_
  refine lv_iconst (v := 2) hx hb dL_498 (by decide) ?_
  refine lv_iadd hx hb dL_499 ?_
  refine va_sld hx hb hX hbl hbA hS (by unfold vp_in; decide) dL_500 ?_
  refine law_call (mc1 := 0) (ms1 := 0) (ci := 11) (x := 0) (mj := mX11_gateOf) (vs := [.int _, .int _]) (S := []) (d := 0 + 2) hx hb hml hown hts hF hS hW hl dL_501 rfl rfl cm_X11_gateOf wl_51 wl_52 wl_53 rfl (Nat.le_of_ble_eq_true rfl) (Nat.le_of_ble_eq_true rfl) (Nat.le_of_ble_eq_true rfl) (Nat.le_of_ble_eq_true rfl) (Nat.le_of_ble_eq_true rfl) (x_gateOf 0 _ _) ?_
  rintro _ _ H locs ⟨I1, rfl, rfl, hfar⟩ hW hS
  rw [gmx_eq hfar] at hW
  dsimp only [Option.map, Option.toList, List.cons_append, List.nil_append, gtr]
  refine lv_aload_n hx hb dL_504 rfl (lv_at hl 2 rfl) ?_
  refine lv_aload_n hx hb dL_505 rfl (lv_at hl 0 rfl) ?_
  refine lv_iload_n hx hb dL_506 rfl (lv_at hl 3 rfl) ?_
  refine lv_iconst (v := 1) hx hb dL_507 (by decide) ?_
  refine lv_iadd hx hb dL_508 ?_
  refine va_sld hx hb hX hbl hbA hS (by unfold vp_in; decide) dL_509 ?_
  refine lv_aload_n hx hb dL_510 rfl (lv_at hl 0 rfl) ?_
  refine lv_iload_n hx hb dL_511 rfl (lv_at hl 3 rfl) ?_
  refine lv_iconst (v := 2) hx hb dL_512 (by decide) ?_
  refine lv_iadd hx hb dL_513 ?_
  refine va_sld hx hb hX hbl hbA hS (by unfold vp_in; decide) dL_514 ?_
  refine law_call (mc1 := 0) (ms1 := 0) (ci := 12) (x := 67) (mj := mX12_gateOf) (vs := [.int _, .int _]) (S := [.int _]) (d := 0 + 2) hx hb hml hown hts hF hS hW hl dL_515 rfl rfl cm_X12_gateOf wl_55 wl_56 wl_57 rfl (Nat.le_of_ble_eq_true rfl) (Nat.le_of_ble_eq_true rfl) (Nat.le_of_ble_eq_true rfl) (Nat.le_of_ble_eq_true rfl) (Nat.le_of_ble_eq_true rfl) (z_gateOf I1 0 _ _) ?_
  rintro _ h2 H locs rfl hW hS
  dsimp only [Option.map, Option.toList, List.cons_append, List.nil_append, gtr]
  refine lv_icmp_eq (tgt := 1745) hx hb dL_518 (by decide) (fun _ => ?_) (fun z => absurd rfl z)
  exact law_end C0 hS hl
set_option maxRecDepth 100000 in
set_option maxHeartbeats 4000000 in
theorem law_7_ends {p : Program} {l : Launch} {e : Env} {s : State} {m : MethodId} {below : List Frame} {meth : Method} {c : Code} {bs : Nat} {xs : Nat → Int32} {D : va_G} {cy : Nat → ClassId} (C0 : lw_At p s m meth c bs 5 xs) (hF : gFx s.heap.size D cy s) {H : Heap} {locs : List Loc} {ls : Array Slot} (hS : va_S (gA s.heap.size) s.heap H locs) (hW : gWd s.heap.size D cy (SH0, RF0, I0) H) (hl : lv_has ls 4 [(0, .ref bs), (1, .ref (s.heap.size + 0)), (2, .ref (s.heap.size + 67)), (3, .int 0)]) : W p l e room_1 s m #[Value.ref bs] below meth c H locs 88 3546 (lw_Z below #[Value.ref bs] s) (F0 m 523 ls []) := by
  obtain ⟨hx, hb, hr, hml, hown, hts, hX, hbl, hlocks, hgv⟩ := id C0
  have hbA : ¬ gA s.heap.size bs := Nat.not_le.mpr hbl
  refine lv_aload_n hx hb dL_523 rfl (lv_at hl 1 rfl) ?_
  refine lv_aload_n hx hb dL_524 rfl (lv_at hl 0 rfl) ?_
  refine lv_iload_n hx hb dL_525 rfl (lv_at hl 3 rfl) ?_
  refine lv_iconst (v := 1) hx hb dL_526 (by decide) ?_
  refine lv_iadd hx hb dL_527 ?_
  refine va_sld hx hb hX hbl hbA hS (by unfold vp_in; decide) dL_528 ?_
  refine law_call (mc1 := 0) (ms1 := 0) (ci := 11) (x := 0) (mj := mX11_ends) (vs := [.int _]) (S := []) (d := 0 + 1) hx hb hml hown hts hF hS hW hl dL_529 rfl rfl cm_X11_ends wl_59 wl_60 wl_61 rfl (Nat.le_of_ble_eq_true rfl) (Nat.le_of_ble_eq_true rfl) (Nat.le_of_ble_eq_true rfl) (Nat.le_of_ble_eq_true rfl) (Nat.le_of_ble_eq_true rfl) (x_ends 0 _) ?_
  rintro _ _ H locs ⟨I1, rfl, rfl, hfar⟩ hW hS
  rw [gmx_eq hfar] at hW
  dsimp only [Option.map, Option.toList, List.cons_append, List.nil_append, gtr]
  refine lv_aload_n hx hb dL_532 rfl (lv_at hl 2 rfl) ?_
  refine lv_aload_n hx hb dL_533 rfl (lv_at hl 0 rfl) ?_
  refine lv_iload_n hx hb dL_534 rfl (lv_at hl 3 rfl) ?_
  refine lv_iconst (v := 1) hx hb dL_535 (by decide) ?_
  refine lv_iadd hx hb dL_536 ?_
  refine va_sld hx hb hX hbl hbA hS (by unfold vp_in; decide) dL_537 ?_
  refine law_call (mc1 := 0) (ms1 := 0) (ci := 12) (x := 67) (mj := mX12_ends) (vs := [.int _]) (S := [.int _]) (d := 0 + 1) hx hb hml hown hts hF hS hW hl dL_538 rfl rfl cm_X12_ends wl_63 wl_64 wl_65 rfl (Nat.le_of_ble_eq_true rfl) (Nat.le_of_ble_eq_true rfl) (Nat.le_of_ble_eq_true rfl) (Nat.le_of_ble_eq_true rfl) (Nat.le_of_ble_eq_true rfl) (z_ends I1 0 _) ?_
  rintro _ h2 H locs rfl hW hS
  dsimp only [Option.map, Option.toList, List.cons_append, List.nil_append, gtr]
  refine lv_icmp_eq (tgt := 1745) hx hb dL_541 (by decide) (fun _ => ?_) (fun z => absurd rfl z)
  exact law_end C0 hS hl
set_option maxRecDepth 100000 in
set_option maxHeartbeats 4000000 in
theorem law_8_anew {p : Program} {l : Launch} {e : Env} {s : State} {m : MethodId} {below : List Frame} {meth : Method} {c : Code} {bs : Nat} {xs : Nat → Int32} {D : va_G} {cy : Nat → ClassId} (C0 : lw_At p s m meth c bs 5 xs) (hF : gFx s.heap.size D cy s) {H : Heap} {locs : List Loc} {ls : Array Slot} (hS : va_S (gA s.heap.size) s.heap H locs) (hW : gWd s.heap.size D cy (SH0, RF0, I0) H) (hl : lv_has ls 4 [(0, .ref bs), (1, .ref (s.heap.size + 0)), (2, .ref (s.heap.size + 67)), (3, .int 0)]) : W p l e room_1 s m #[Value.ref bs] below meth c H locs 88 3546 (lw_Z below #[Value.ref bs] s) (F0 m 546 ls []) := by
  obtain ⟨hx, hb, hr, hml, hown, hts, hX, hbl, hlocks, hgv⟩ := id C0
  have hbA : ¬ gA s.heap.size bs := Nat.not_le.mpr hbl
  refine lv_aload_n hx hb dL_546 rfl (lv_at hl 1 rfl) ?_
  refine law_call (mc1 := 0) (ms1 := 0) (ci := 11) (x := 0) (mj := mX11_anew) (vs := []) (S := []) (d := 0) hx hb hml hown hts hF hS hW hl dL_547 rfl rfl cm_X11_anew wl_67 wl_68 wl_69 rfl (Nat.le_of_ble_eq_true rfl) (Nat.le_of_ble_eq_true rfl) (Nat.le_of_ble_eq_true rfl) (Nat.le_of_ble_eq_true rfl) (Nat.le_of_ble_eq_true rfl) (x_anew 0 ) ?_
  rintro _ _ H locs ⟨I1, rfl, rfl, hfar⟩ hW hS
  rw [gmx_eq hfar] at hW
  dsimp only [Option.map, Option.toList, List.cons_append, List.nil_append, gtr]
  refine lv_aload_n hx hb dL_550 rfl (lv_at hl 2 rfl) ?_
  refine law_call (mc1 := 0) (ms1 := 0) (ci := 12) (x := 67) (mj := mX12_anew) (vs := []) (S := [.int _]) (d := 0 + 1) hx hb hml hown hts hF hS hW hl dL_551 rfl rfl cm_X12_anew wl_71 wl_72 wl_73 rfl (Nat.le_of_ble_eq_true rfl) (Nat.le_of_ble_eq_true rfl) (Nat.le_of_ble_eq_true rfl) (Nat.le_of_ble_eq_true rfl) (Nat.le_of_ble_eq_true rfl) (z_anew I1 0 ) ?_
  rintro _ h2 H locs rfl hW hS
  dsimp only [Option.map, Option.toList, List.cons_append, List.nil_append, gtr]
  refine lv_icmp_eq (tgt := 1745) hx hb dL_554 (by decide) (fun _ => ?_) (fun z => absurd rfl z)
  exact law_end C0 hS hl
set_option maxRecDepth 100000 in
set_option maxHeartbeats 4000000 in
theorem law_9_state {p : Program} {l : Launch} {e : Env} {s : State} {m : MethodId} {below : List Frame} {meth : Method} {c : Code} {bs : Nat} {xs : Nat → Int32} {D : va_G} {cy : Nat → ClassId} (C0 : lw_At p s m meth c bs 5 xs) (hF : gFx s.heap.size D cy s) {H : Heap} {locs : List Loc} {ls : Array Slot} (hS : va_S (gA s.heap.size) s.heap H locs) (hW : gWd s.heap.size D cy (SH0, RF0, I0) H) (hl : lv_has ls 4 [(0, .ref bs), (1, .ref (s.heap.size + 0)), (2, .ref (s.heap.size + 67)), (3, .int 0)]) : W p l e room_1 s m #[Value.ref bs] below meth c H locs 88 3546 (lw_Z below #[Value.ref bs] s) (F0 m 559 ls []) := by
  obtain ⟨hx, hb, hr, hml, hown, hts, hX, hbl, hlocks, hgv⟩ := id C0
  have hbA : ¬ gA s.heap.size bs := Nat.not_le.mpr hbl
  refine lv_aload_n hx hb dL_559 rfl (lv_at hl 1 rfl) ?_
  refine lv_aload_n hx hb dL_560 rfl (lv_at hl 0 rfl) ?_
  refine lv_iload_n hx hb dL_561 rfl (lv_at hl 3 rfl) ?_
  refine lv_iconst (v := 1) hx hb dL_562 (by decide) ?_
  refine lv_iadd hx hb dL_563 ?_
  refine va_sld hx hb hX hbl hbA hS (by unfold vp_in; decide) dL_564 ?_
  refine law_call (mc1 := 0) (ms1 := 0) (ci := 11) (x := 0) (mj := mX11_state) (vs := [.int _]) (S := []) (d := 0 + 1) hx hb hml hown hts hF hS hW hl dL_565 rfl rfl cm_X11_state wl_75 wl_76 wl_77 rfl (Nat.le_of_ble_eq_true rfl) (Nat.le_of_ble_eq_true rfl) (Nat.le_of_ble_eq_true rfl) (Nat.le_of_ble_eq_true rfl) (Nat.le_of_ble_eq_true rfl) (x_state 0 _) ?_
  rintro _ _ H locs ⟨I1, rfl, rfl, hfar⟩ hW hS
  rw [gmx_eq hfar] at hW
  dsimp only [Option.map, Option.toList, List.cons_append, List.nil_append, gtr]
  refine lv_aload_n hx hb dL_568 rfl (lv_at hl 2 rfl) ?_
  refine lv_aload_n hx hb dL_569 rfl (lv_at hl 0 rfl) ?_
  refine lv_iload_n hx hb dL_570 rfl (lv_at hl 3 rfl) ?_
  refine lv_iconst (v := 1) hx hb dL_571 (by decide) ?_
  refine lv_iadd hx hb dL_572 ?_
  refine va_sld hx hb hX hbl hbA hS (by unfold vp_in; decide) dL_573 ?_
  refine law_call (mc1 := 0) (ms1 := 0) (ci := 12) (x := 67) (mj := mX12_state) (vs := [.int _]) (S := [.int _]) (d := 0 + 1) hx hb hml hown hts hF hS hW hl dL_574 rfl rfl cm_X12_state wl_79 wl_80 wl_81 rfl (Nat.le_of_ble_eq_true rfl) (Nat.le_of_ble_eq_true rfl) (Nat.le_of_ble_eq_true rfl) (Nat.le_of_ble_eq_true rfl) (Nat.le_of_ble_eq_true rfl) (z_state I1 0 _) ?_
  rintro _ h2 H locs rfl hW hS
  dsimp only [Option.map, Option.toList, List.cons_append, List.nil_append, gtr]
  refine lv_icmp_eq (tgt := 1745) hx hb dL_577 (by decide) (fun _ => ?_) (fun z => absurd rfl z)
  exact law_end C0 hS hl
set_option maxRecDepth 100000 in
set_option maxHeartbeats 4000000 in
theorem law_10_feed {p : Program} {l : Launch} {e : Env} {s : State} {m : MethodId} {below : List Frame} {meth : Method} {c : Code} {bs : Nat} {xs : Nat → Int32} {D : va_G} {cy : Nat → ClassId} (C0 : lw_At p s m meth c bs 5 xs) (hF : gFx s.heap.size D cy s) {H : Heap} {locs : List Loc} {ls : Array Slot} (hS : va_S (gA s.heap.size) s.heap H locs) (hW : gWd s.heap.size D cy (SH0, RF0, I0) H) (hl : lv_has ls 4 [(0, .ref bs), (1, .ref (s.heap.size + 0)), (2, .ref (s.heap.size + 67)), (3, .int 0)]) : W p l e room_1 s m #[Value.ref bs] below meth c H locs 88 3546 (lw_Z below #[Value.ref bs] s) (F0 m 582 ls []) := by
  obtain ⟨hx, hb, hr, hml, hown, hts, hX, hbl, hlocks, hgv⟩ := id C0
  have hbA : ¬ gA s.heap.size bs := Nat.not_le.mpr hbl
  refine lv_aload_n hx hb dL_582 rfl (lv_at hl 1 rfl) ?_
  refine lv_aload_n hx hb dL_583 rfl (lv_at hl 0 rfl) ?_
  refine lv_iload_n hx hb dL_584 rfl (lv_at hl 3 rfl) ?_
  refine lv_iconst (v := 1) hx hb dL_585 (by decide) ?_
  refine lv_iadd hx hb dL_586 ?_
  refine va_sld hx hb hX hbl hbA hS (by unfold vp_in; decide) dL_587 ?_
  refine lv_i2l hx hb dL_588 rfl ?_
  refine lv_bipush (v := 32) hx hb dL_589 (by decide) ?_
  refine lv_lshl hx hb dL_591 rfl ?_
  refine lv_aload_n hx hb dL_592 rfl (lv_at hl 0 rfl) ?_
  refine lv_iload_n hx hb dL_593 rfl (lv_at hl 3 rfl) ?_
  refine lv_iconst (v := 2) hx hb dL_594 (by decide) ?_
  refine lv_iadd hx hb dL_595 ?_
  refine va_sld hx hb hX hbl hbA hS (by unfold vp_in; decide) dL_596 ?_
  refine lv_i2l hx hb dL_597 rfl ?_
  refine lv_ldc2 (v := 4294967295) hx hb hown (hts (.constantLong R_law 58 4294967295) (gs8 _ (List.mem_of_getElem? (l := tables_1_8) (i := 67) (by decide +kernel)))) dL_598 ?_
  refine lv_land hx hb dL_601 ?_
  refine lv_lor hx hb dL_602 ?_
  refine lv_aload_n hx hb dL_603 rfl (lv_at hl 0 rfl) ?_
  refine lv_iload_n hx hb dL_604 rfl (lv_at hl 3 rfl) ?_
  refine lv_iconst (v := 3) hx hb dL_605 (by decide) ?_
  refine lv_iadd hx hb dL_606 ?_
  refine va_sld hx hb hX hbl hbA hS (by unfold vp_in; decide) dL_607 ?_
  refine law_call (mc1 := 0) (ms1 := 0) (ci := 11) (x := 0) (mj := mX11_feed) (vs := [.long _, .int _]) (S := []) (d := 0 + 1) hx hb hml hown hts hF hS hW hl dL_608 rfl rfl cm_X11_feed wl_83 wl_84 wl_85 rfl (Nat.le_of_ble_eq_true rfl) (Nat.le_of_ble_eq_true rfl) (Nat.le_of_ble_eq_true rfl) (Nat.le_of_ble_eq_true rfl) (Nat.le_of_ble_eq_true rfl) (x_feed 0 _ _) ?_
  rintro _ _ H locs ⟨I1, rfl, rfl, hfar⟩ hW hS
  rw [gmx_eq hfar] at hW
  dsimp only [Option.map, Option.toList, List.cons_append, List.nil_append, gtr]
  refine lv_aload_n hx hb dL_611 rfl (lv_at hl 2 rfl) ?_
  refine lv_aload_n hx hb dL_612 rfl (lv_at hl 0 rfl) ?_
  refine lv_iload_n hx hb dL_613 rfl (lv_at hl 3 rfl) ?_
  refine lv_iconst (v := 1) hx hb dL_614 (by decide) ?_
  refine lv_iadd hx hb dL_615 ?_
  refine va_sld hx hb hX hbl hbA hS (by unfold vp_in; decide) dL_616 ?_
  refine lv_i2l hx hb dL_617 rfl ?_
  refine lv_bipush (v := 32) hx hb dL_618 (by decide) ?_
  refine lv_lshl hx hb dL_620 rfl ?_
  refine lv_aload_n hx hb dL_621 rfl (lv_at hl 0 rfl) ?_
  refine lv_iload_n hx hb dL_622 rfl (lv_at hl 3 rfl) ?_
  refine lv_iconst (v := 2) hx hb dL_623 (by decide) ?_
  refine lv_iadd hx hb dL_624 ?_
  refine va_sld hx hb hX hbl hbA hS (by unfold vp_in; decide) dL_625 ?_
  refine lv_i2l hx hb dL_626 rfl ?_
  refine lv_ldc2 (v := 4294967295) hx hb hown (hts (.constantLong R_law 58 4294967295) (gs8 _ (List.mem_of_getElem? (l := tables_1_8) (i := 67) (by decide +kernel)))) dL_627 ?_
  refine lv_land hx hb dL_630 ?_
  refine lv_lor hx hb dL_631 ?_
  refine lv_aload_n hx hb dL_632 rfl (lv_at hl 0 rfl) ?_
  refine lv_iload_n hx hb dL_633 rfl (lv_at hl 3 rfl) ?_
  refine lv_iconst (v := 3) hx hb dL_634 (by decide) ?_
  refine lv_iadd hx hb dL_635 ?_
  refine va_sld hx hb hX hbl hbA hS (by unfold vp_in; decide) dL_636 ?_
  refine law_call (mc1 := 0) (ms1 := 0) (ci := 12) (x := 67) (mj := mX12_feed) (vs := [.long _, .int _]) (S := [.int _]) (d := 0 + 1) hx hb hml hown hts hF hS hW hl dL_637 rfl rfl cm_X12_feed wl_87 wl_88 wl_89 rfl (Nat.le_of_ble_eq_true rfl) (Nat.le_of_ble_eq_true rfl) (Nat.le_of_ble_eq_true rfl) (Nat.le_of_ble_eq_true rfl) (Nat.le_of_ble_eq_true rfl) (z_feed I1 0 _ _) ?_
  rintro _ h2 H locs rfl hW hS
  dsimp only [Option.map, Option.toList, List.cons_append, List.nil_append, gtr]
  refine lv_icmp_eq (tgt := 1745) hx hb dL_640 (by decide) (fun _ => ?_) (fun z => absurd rfl z)
  exact law_end C0 hS hl
set_option maxRecDepth 100000 in
set_option maxHeartbeats 4000000 in
theorem law_11_rules {p : Program} {l : Launch} {e : Env} {s : State} {m : MethodId} {below : List Frame} {meth : Method} {c : Code} {bs : Nat} {xs : Nat → Int32} {D : va_G} {cy : Nat → ClassId} (C0 : lw_At p s m meth c bs 5 xs) (hF : gFx s.heap.size D cy s) {H : Heap} {locs : List Loc} {ls : Array Slot} (hS : va_S (gA s.heap.size) s.heap H locs) (hW : gWd s.heap.size D cy (SH0, RF0, I0) H) (hl : lv_has ls 4 [(0, .ref bs), (1, .ref (s.heap.size + 0)), (2, .ref (s.heap.size + 67)), (3, .int 0)]) : W p l e room_1 s m #[Value.ref bs] below meth c H locs 88 3546 (lw_Z below #[Value.ref bs] s) (F0 m 645 ls []) := by
  obtain ⟨hx, hb, hr, hml, hown, hts, hX, hbl, hlocks, hgv⟩ := id C0
  have hbA : ¬ gA s.heap.size bs := Nat.not_le.mpr hbl
  refine lv_aload_n hx hb dL_645 rfl (lv_at hl 1 rfl) ?_
  refine law_call (mc1 := 0) (ms1 := 0) (ci := 11) (x := 0) (mj := mX11_rules) (vs := []) (S := []) (d := 0 + 3) hx hb hml hown hts hF hS hW hl dL_646 rfl rfl cm_X11_rules wl_91 wl_92 wl_93 rfl (Nat.le_of_ble_eq_true rfl) (Nat.le_of_ble_eq_true rfl) (Nat.le_of_ble_eq_true rfl) (Nat.le_of_ble_eq_true rfl) (Nat.le_of_ble_eq_true rfl) (x_rules 0 ) ?_
  rintro _ _ H locs ⟨I1, rfl, rfl, hfar⟩ hW hS
  rw [gmx_eq hfar] at hW
  dsimp only [Option.map, Option.toList, List.cons_append, List.nil_append, gtr]
  refine lv_aload_n hx hb dL_649 rfl (lv_at hl 2 rfl) ?_
  refine law_call (mc1 := 0) (ms1 := 0) (ci := 12) (x := 67) (mj := mX12_rules) (vs := []) (S := [.int _]) (d := 0 + 2) hx hb hml hown hts hF hS hW hl dL_650 rfl rfl cm_X12_rules wl_95 wl_96 wl_97 rfl (Nat.le_of_ble_eq_true rfl) (Nat.le_of_ble_eq_true rfl) (Nat.le_of_ble_eq_true rfl) (Nat.le_of_ble_eq_true rfl) (Nat.le_of_ble_eq_true rfl) (z_rules I1 0 ) ?_
  rintro _ h2 H locs rfl hW hS
  dsimp only [Option.map, Option.toList, List.cons_append, List.nil_append, gtr]
  refine lv_icmp_eq (tgt := 1745) hx hb dL_653 (by decide) (fun _ => ?_) (fun z => absurd rfl z)
  exact law_end C0 hS hl
set_option maxRecDepth 100000 in
set_option maxHeartbeats 4000000 in
theorem law_12_halt {p : Program} {l : Launch} {e : Env} {s : State} {m : MethodId} {below : List Frame} {meth : Method} {c : Code} {bs : Nat} {xs : Nat → Int32} {D : va_G} {cy : Nat → ClassId} (C0 : lw_At p s m meth c bs 5 xs) (hF : gFx s.heap.size D cy s) {H : Heap} {locs : List Loc} {ls : Array Slot} (hS : va_S (gA s.heap.size) s.heap H locs) (hW : gWd s.heap.size D cy (SH0, RF0, I0) H) (hl : lv_has ls 4 [(0, .ref bs), (1, .ref (s.heap.size + 0)), (2, .ref (s.heap.size + 67)), (3, .int 0)]) : W p l e room_1 s m #[Value.ref bs] below meth c H locs 88 3546 (lw_Z below #[Value.ref bs] s) (F0 m 658 ls []) := by
  obtain ⟨hx, hb, hr, hml, hown, hts, hX, hbl, hlocks, hgv⟩ := id C0
  have hbA : ¬ gA s.heap.size bs := Nat.not_le.mpr hbl
  refine lv_aload_n hx hb dL_658 rfl (lv_at hl 1 rfl) ?_
  refine law_call (mc1 := 0) (ms1 := 0) (ci := 11) (x := 0) (mj := mX11_halt) (vs := []) (S := []) (d := 0 + 3) hx hb hml hown hts hF hS hW hl dL_659 rfl rfl cm_X11_halt wl_99 wl_100 wl_101 rfl (Nat.le_of_ble_eq_true rfl) (Nat.le_of_ble_eq_true rfl) (Nat.le_of_ble_eq_true rfl) (Nat.le_of_ble_eq_true rfl) (Nat.le_of_ble_eq_true rfl) (x_halt 0 ) ?_
  rintro _ _ H locs ⟨I1, rfl, rfl, hfar⟩ hW hS
  rw [gmx_eq hfar] at hW
  dsimp only [Option.map, Option.toList, List.cons_append, List.nil_append, gtr]
  refine lv_aload_n hx hb dL_662 rfl (lv_at hl 2 rfl) ?_
  refine law_call (mc1 := 0) (ms1 := 0) (ci := 12) (x := 67) (mj := mX12_halt) (vs := []) (S := [.int _]) (d := 0 + 2) hx hb hml hown hts hF hS hW hl dL_663 rfl rfl cm_X12_halt wl_103 wl_104 wl_105 rfl (Nat.le_of_ble_eq_true rfl) (Nat.le_of_ble_eq_true rfl) (Nat.le_of_ble_eq_true rfl) (Nat.le_of_ble_eq_true rfl) (Nat.le_of_ble_eq_true rfl) (z_halt I1 0 ) ?_
  rintro _ h2 H locs rfl hW hS
  dsimp only [Option.map, Option.toList, List.cons_append, List.nil_append, gtr]
  refine lv_icmp_eq (tgt := 1745) hx hb dL_666 (by decide) (fun _ => ?_) (fun z => absurd rfl z)
  exact law_end C0 hS hl
set_option maxRecDepth 100000 in
set_option maxHeartbeats 4000000 in
theorem law_13_on {p : Program} {l : Launch} {e : Env} {s : State} {m : MethodId} {below : List Frame} {meth : Method} {c : Code} {bs : Nat} {xs : Nat → Int32} {D : va_G} {cy : Nat → ClassId} (C0 : lw_At p s m meth c bs 5 xs) (hF : gFx s.heap.size D cy s) {H : Heap} {locs : List Loc} {ls : Array Slot} (hS : va_S (gA s.heap.size) s.heap H locs) (hW : gWd s.heap.size D cy (SH0, RF0, I0) H) (hl : lv_has ls 4 [(0, .ref bs), (1, .ref (s.heap.size + 0)), (2, .ref (s.heap.size + 67)), (3, .int 0)]) : W p l e room_1 s m #[Value.ref bs] below meth c H locs 88 3546 (lw_Z below #[Value.ref bs] s) (F0 m 671 ls []) := by
  obtain ⟨hx, hb, hr, hml, hown, hts, hX, hbl, hlocks, hgv⟩ := id C0
  have hbA : ¬ gA s.heap.size bs := Nat.not_le.mpr hbl
  refine lv_aload_n hx hb dL_671 rfl (lv_at hl 1 rfl) ?_
  refine lv_aload_n hx hb dL_672 rfl (lv_at hl 0 rfl) ?_
  refine lv_iload_n hx hb dL_673 rfl (lv_at hl 3 rfl) ?_
  refine lv_iconst (v := 1) hx hb dL_674 (by decide) ?_
  refine lv_iadd hx hb dL_675 ?_
  refine va_sld hx hb hX hbl hbA hS (by unfold vp_in; decide) dL_676 ?_
  refine law_call (mc1 := 0) (ms1 := 0) (ci := 11) (x := 0) (mj := mX11_on) (vs := [.int _]) (S := []) (d := 0 + 3) hx hb hml hown hts hF hS hW hl dL_677 rfl rfl cm_X11_on wl_107 wl_108 wl_109 rfl (Nat.le_of_ble_eq_true rfl) (Nat.le_of_ble_eq_true rfl) (Nat.le_of_ble_eq_true rfl) (Nat.le_of_ble_eq_true rfl) (Nat.le_of_ble_eq_true rfl) (x_on 0 _) ?_
  rintro _ _ H locs ⟨I1, rfl, rfl, hfar⟩ hW hS
  rw [gmx_eq hfar] at hW
  dsimp only [Option.map, Option.toList, List.cons_append, List.nil_append, gtr]
  refine lv_aload_n hx hb dL_680 rfl (lv_at hl 2 rfl) ?_
  refine lv_aload_n hx hb dL_681 rfl (lv_at hl 0 rfl) ?_
  refine lv_iload_n hx hb dL_682 rfl (lv_at hl 3 rfl) ?_
  refine lv_iconst (v := 1) hx hb dL_683 (by decide) ?_
  refine lv_iadd hx hb dL_684 ?_
  refine va_sld hx hb hX hbl hbA hS (by unfold vp_in; decide) dL_685 ?_
  refine law_call (mc1 := 0) (ms1 := 0) (ci := 12) (x := 67) (mj := mX12_on) (vs := [.int _]) (S := [.int _]) (d := 0 + 3) hx hb hml hown hts hF hS hW hl dL_686 rfl rfl cm_X12_on wl_111 wl_112 wl_113 rfl (Nat.le_of_ble_eq_true rfl) (Nat.le_of_ble_eq_true rfl) (Nat.le_of_ble_eq_true rfl) (Nat.le_of_ble_eq_true rfl) (Nat.le_of_ble_eq_true rfl) (z_on I1 0 _) ?_
  rintro _ h2 H locs rfl hW hS
  dsimp only [Option.map, Option.toList, List.cons_append, List.nil_append, gtr]
  refine lv_icmp_eq (tgt := 1745) hx hb dL_689 (by decide) (fun _ => ?_) (fun z => absurd rfl z)
  exact law_end C0 hS hl
set_option maxRecDepth 100000 in
set_option maxHeartbeats 4000000 in
theorem law_14_when {p : Program} {l : Launch} {e : Env} {s : State} {m : MethodId} {below : List Frame} {meth : Method} {c : Code} {bs : Nat} {xs : Nat → Int32} {D : va_G} {cy : Nat → ClassId} (C0 : lw_At p s m meth c bs 5 xs) (hF : gFx s.heap.size D cy s) {H : Heap} {locs : List Loc} {ls : Array Slot} (hS : va_S (gA s.heap.size) s.heap H locs) (hW : gWd s.heap.size D cy (SH0, RF0, I0) H) (hl : lv_has ls 4 [(0, .ref bs), (1, .ref (s.heap.size + 0)), (2, .ref (s.heap.size + 67)), (3, .int 0)]) : W p l e room_1 s m #[Value.ref bs] below meth c H locs 88 3546 (lw_Z below #[Value.ref bs] s) (F0 m 694 ls []) := by
  obtain ⟨hx, hb, hr, hml, hown, hts, hX, hbl, hlocks, hgv⟩ := id C0
  have hbA : ¬ gA s.heap.size bs := Nat.not_le.mpr hbl
  refine lv_aload_n hx hb dL_694 rfl (lv_at hl 1 rfl) ?_
  refine lv_aload_n hx hb dL_695 rfl (lv_at hl 0 rfl) ?_
  refine lv_iload_n hx hb dL_696 rfl (lv_at hl 3 rfl) ?_
  refine lv_iconst (v := 1) hx hb dL_697 (by decide) ?_
  refine lv_iadd hx hb dL_698 ?_
  refine va_sld hx hb hX hbl hbA hS (by unfold vp_in; decide) dL_699 ?_
  refine law_call (mc1 := 0) (ms1 := 0) (ci := 11) (x := 0) (mj := mX11_when) (vs := [.int _]) (S := []) (d := 0 + 1) hx hb hml hown hts hF hS hW hl dL_700 rfl rfl cm_X11_when wl_115 wl_116 wl_117 rfl (Nat.le_of_ble_eq_true rfl) (Nat.le_of_ble_eq_true rfl) (Nat.le_of_ble_eq_true rfl) (Nat.le_of_ble_eq_true rfl) (Nat.le_of_ble_eq_true rfl) (x_when 0 _) ?_
  rintro _ _ H locs ⟨I1, rfl, rfl, hfar⟩ hW hS
  rw [gmx_eq hfar] at hW
  dsimp only [Option.map, Option.toList, List.cons_append, List.nil_append, gtr]
  refine lv_aload_n hx hb dL_703 rfl (lv_at hl 2 rfl) ?_
  refine lv_aload_n hx hb dL_704 rfl (lv_at hl 0 rfl) ?_
  refine lv_iload_n hx hb dL_705 rfl (lv_at hl 3 rfl) ?_
  refine lv_iconst (v := 1) hx hb dL_706 (by decide) ?_
  refine lv_iadd hx hb dL_707 ?_
  refine va_sld hx hb hX hbl hbA hS (by unfold vp_in; decide) dL_708 ?_
  refine law_call (mc1 := 0) (ms1 := 0) (ci := 12) (x := 67) (mj := mX12_when) (vs := [.int _]) (S := [.int _]) (d := 0 + 2) hx hb hml hown hts hF hS hW hl dL_709 rfl rfl cm_X12_when wl_119 wl_120 wl_121 rfl (Nat.le_of_ble_eq_true rfl) (Nat.le_of_ble_eq_true rfl) (Nat.le_of_ble_eq_true rfl) (Nat.le_of_ble_eq_true rfl) (Nat.le_of_ble_eq_true rfl) (z_when I1 0 _) ?_
  rintro _ h2 H locs rfl hW hS
  dsimp only [Option.map, Option.toList, List.cons_append, List.nil_append, gtr]
  refine lv_icmp_eq (tgt := 1745) hx hb dL_712 (by decide) (fun _ => ?_) (fun z => absurd rfl z)
  exact law_end C0 hS hl
set_option maxRecDepth 100000 in
set_option maxHeartbeats 4000000 in
theorem law_15_strawFor {p : Program} {l : Launch} {e : Env} {s : State} {m : MethodId} {below : List Frame} {meth : Method} {c : Code} {bs : Nat} {xs : Nat → Int32} {D : va_G} {cy : Nat → ClassId} (C0 : lw_At p s m meth c bs 5 xs) (hF : gFx s.heap.size D cy s) {H : Heap} {locs : List Loc} {ls : Array Slot} (hS : va_S (gA s.heap.size) s.heap H locs) (hW : gWd s.heap.size D cy (SH0, RF0, I0) H) (hl : lv_has ls 4 [(0, .ref bs), (1, .ref (s.heap.size + 0)), (2, .ref (s.heap.size + 67)), (3, .int 0)]) : W p l e room_1 s m #[Value.ref bs] below meth c H locs 88 3546 (lw_Z below #[Value.ref bs] s) (F0 m 717 ls []) := by
  obtain ⟨hx, hb, hr, hml, hown, hts, hX, hbl, hlocks, hgv⟩ := id C0
  have hbA : ¬ gA s.heap.size bs := Nat.not_le.mpr hbl
  refine lv_aload_n hx hb dL_717 rfl (lv_at hl 1 rfl) ?_
  refine lv_aload_n hx hb dL_718 rfl (lv_at hl 0 rfl) ?_
  refine lv_iload_n hx hb dL_719 rfl (lv_at hl 3 rfl) ?_
  refine lv_iconst (v := 1) hx hb dL_720 (by decide) ?_
  refine lv_iadd hx hb dL_721 ?_
  refine va_sld hx hb hX hbl hbA hS (by unfold vp_in; decide) dL_722 ?_
  refine law_call (mc1 := 0) (ms1 := 0) (ci := 11) (x := 0) (mj := mX11_strawFor) (vs := [.int _]) (S := []) (d := 0 + 1) hx hb hml hown hts hF hS hW hl dL_723 rfl rfl cm_X11_strawFor wl_123 wl_124 wl_125 rfl (Nat.le_of_ble_eq_true rfl) (Nat.le_of_ble_eq_true rfl) (Nat.le_of_ble_eq_true rfl) (Nat.le_of_ble_eq_true rfl) (Nat.le_of_ble_eq_true rfl) (x_strawFor 0 _) ?_
  rintro _ _ H locs ⟨I1, rfl, rfl, hfar⟩ hW hS
  rw [gmx_eq hfar] at hW
  dsimp only [Option.map, Option.toList, List.cons_append, List.nil_append, gtr]
  refine lv_aload_n hx hb dL_726 rfl (lv_at hl 2 rfl) ?_
  refine lv_aload_n hx hb dL_727 rfl (lv_at hl 0 rfl) ?_
  refine lv_iload_n hx hb dL_728 rfl (lv_at hl 3 rfl) ?_
  refine lv_iconst (v := 1) hx hb dL_729 (by decide) ?_
  refine lv_iadd hx hb dL_730 ?_
  refine va_sld hx hb hX hbl hbA hS (by unfold vp_in; decide) dL_731 ?_
  refine law_call (mc1 := 0) (ms1 := 0) (ci := 12) (x := 67) (mj := mX12_strawFor) (vs := [.int _]) (S := [.int _]) (d := 0 + 3) hx hb hml hown hts hF hS hW hl dL_732 rfl rfl cm_X12_strawFor wl_127 wl_128 wl_129 rfl (Nat.le_of_ble_eq_true rfl) (Nat.le_of_ble_eq_true rfl) (Nat.le_of_ble_eq_true rfl) (Nat.le_of_ble_eq_true rfl) (Nat.le_of_ble_eq_true rfl) (z_strawFor I1 0 _) ?_
  rintro _ h2 H locs rfl hW hS
  dsimp only [Option.map, Option.toList, List.cons_append, List.nil_append, gtr]
  refine lv_icmp_eq (tgt := 1745) hx hb dL_735 (by decide) (fun _ => ?_) (fun z => absurd rfl z)
  exact law_end C0 hS hl
set_option maxRecDepth 100000 in
set_option maxHeartbeats 4000000 in
theorem law_16_gateFor {p : Program} {l : Launch} {e : Env} {s : State} {m : MethodId} {below : List Frame} {meth : Method} {c : Code} {bs : Nat} {xs : Nat → Int32} {D : va_G} {cy : Nat → ClassId} (C0 : lw_At p s m meth c bs 5 xs) (hF : gFx s.heap.size D cy s) {H : Heap} {locs : List Loc} {ls : Array Slot} (hS : va_S (gA s.heap.size) s.heap H locs) (hW : gWd s.heap.size D cy (SH0, RF0, I0) H) (hl : lv_has ls 4 [(0, .ref bs), (1, .ref (s.heap.size + 0)), (2, .ref (s.heap.size + 67)), (3, .int 0)]) : W p l e room_1 s m #[Value.ref bs] below meth c H locs 88 3546 (lw_Z below #[Value.ref bs] s) (F0 m 740 ls []) := by
  obtain ⟨hx, hb, hr, hml, hown, hts, hX, hbl, hlocks, hgv⟩ := id C0
  have hbA : ¬ gA s.heap.size bs := Nat.not_le.mpr hbl
  refine lv_aload_n hx hb dL_740 rfl (lv_at hl 1 rfl) ?_
  refine lv_aload_n hx hb dL_741 rfl (lv_at hl 0 rfl) ?_
  refine lv_iload_n hx hb dL_742 rfl (lv_at hl 3 rfl) ?_
  refine lv_iconst (v := 1) hx hb dL_743 (by decide) ?_
  refine lv_iadd hx hb dL_744 ?_
  refine va_sld hx hb hX hbl hbA hS (by unfold vp_in; decide) dL_745 ?_
  refine law_call (mc1 := 0) (ms1 := 0) (ci := 11) (x := 0) (mj := mX11_gateFor) (vs := [.int _]) (S := []) (d := 0 + 1) hx hb hml hown hts hF hS hW hl dL_746 rfl rfl cm_X11_gateFor wl_131 wl_132 wl_133 rfl (Nat.le_of_ble_eq_true rfl) (Nat.le_of_ble_eq_true rfl) (Nat.le_of_ble_eq_true rfl) (Nat.le_of_ble_eq_true rfl) (Nat.le_of_ble_eq_true rfl) (x_gateFor 0 _) ?_
  rintro _ _ H locs ⟨I1, rfl, rfl, hfar⟩ hW hS
  rw [gmx_eq hfar] at hW
  dsimp only [Option.map, Option.toList, List.cons_append, List.nil_append, gtr]
  refine lv_aload_n hx hb dL_749 rfl (lv_at hl 2 rfl) ?_
  refine lv_aload_n hx hb dL_750 rfl (lv_at hl 0 rfl) ?_
  refine lv_iload_n hx hb dL_751 rfl (lv_at hl 3 rfl) ?_
  refine lv_iconst (v := 1) hx hb dL_752 (by decide) ?_
  refine lv_iadd hx hb dL_753 ?_
  refine va_sld hx hb hX hbl hbA hS (by unfold vp_in; decide) dL_754 ?_
  refine law_call (mc1 := 0) (ms1 := 0) (ci := 12) (x := 67) (mj := mX12_gateFor) (vs := [.int _]) (S := [.int _]) (d := 0 + 3) hx hb hml hown hts hF hS hW hl dL_755 rfl rfl cm_X12_gateFor wl_135 wl_136 wl_137 rfl (Nat.le_of_ble_eq_true rfl) (Nat.le_of_ble_eq_true rfl) (Nat.le_of_ble_eq_true rfl) (Nat.le_of_ble_eq_true rfl) (Nat.le_of_ble_eq_true rfl) (z_gateFor I1 0 _) ?_
  rintro _ h2 H locs rfl hW hS
  dsimp only [Option.map, Option.toList, List.cons_append, List.nil_append, gtr]
  refine lv_icmp_eq (tgt := 1745) hx hb dL_758 (by decide) (fun _ => ?_) (fun z => absurd rfl z)
  exact law_end C0 hS hl
set_option maxRecDepth 100000 in
set_option maxHeartbeats 4000000 in
theorem law_17_gone {p : Program} {l : Launch} {e : Env} {s : State} {m : MethodId} {below : List Frame} {meth : Method} {c : Code} {bs : Nat} {xs : Nat → Int32} {D : va_G} {cy : Nat → ClassId} (C0 : lw_At p s m meth c bs 5 xs) (hF : gFx s.heap.size D cy s) {H : Heap} {locs : List Loc} {ls : Array Slot} (hS : va_S (gA s.heap.size) s.heap H locs) (hW : gWd s.heap.size D cy (SH0, RF0, I0) H) (hl : lv_has ls 4 [(0, .ref bs), (1, .ref (s.heap.size + 0)), (2, .ref (s.heap.size + 67)), (3, .int 0)]) : W p l e room_1 s m #[Value.ref bs] below meth c H locs 88 3546 (lw_Z below #[Value.ref bs] s) (F0 m 763 ls []) := by
  obtain ⟨hx, hb, hr, hml, hown, hts, hX, hbl, hlocks, hgv⟩ := id C0
  have hbA : ¬ gA s.heap.size bs := Nat.not_le.mpr hbl
  refine lv_aload_n hx hb dL_763 rfl (lv_at hl 1 rfl) ?_
  refine lv_aload_n hx hb dL_764 rfl (lv_at hl 0 rfl) ?_
  refine lv_iload_n hx hb dL_765 rfl (lv_at hl 3 rfl) ?_
  refine lv_iconst (v := 1) hx hb dL_766 (by decide) ?_
  refine lv_iadd hx hb dL_767 ?_
  refine va_sld hx hb hX hbl hbA hS (by unfold vp_in; decide) dL_768 ?_
  refine law_call (mc1 := 0) (ms1 := 0) (ci := 11) (x := 0) (mj := mX11_gone) (vs := [.int _]) (S := []) (d := 0 + 1) hx hb hml hown hts hF hS hW hl dL_769 rfl rfl cm_X11_gone wl_139 wl_140 wl_141 rfl (Nat.le_of_ble_eq_true rfl) (Nat.le_of_ble_eq_true rfl) (Nat.le_of_ble_eq_true rfl) (Nat.le_of_ble_eq_true rfl) (Nat.le_of_ble_eq_true rfl) (x_gone 0 _) ?_
  rintro _ _ H locs ⟨I1, rfl, rfl, hfar⟩ hW hS
  rw [gmx_eq hfar] at hW
  dsimp only [Option.map, Option.toList, List.cons_append, List.nil_append, gtr]
  refine lv_aload_n hx hb dL_772 rfl (lv_at hl 2 rfl) ?_
  refine lv_aload_n hx hb dL_773 rfl (lv_at hl 0 rfl) ?_
  refine lv_iload_n hx hb dL_774 rfl (lv_at hl 3 rfl) ?_
  refine lv_iconst (v := 1) hx hb dL_775 (by decide) ?_
  refine lv_iadd hx hb dL_776 ?_
  refine va_sld hx hb hX hbl hbA hS (by unfold vp_in; decide) dL_777 ?_
  refine law_call (mc1 := 0) (ms1 := 0) (ci := 12) (x := 67) (mj := mX12_gone) (vs := [.int _]) (S := [.int _]) (d := 0 + 2) hx hb hml hown hts hF hS hW hl dL_778 rfl rfl cm_X12_gone wl_143 wl_144 wl_145 rfl (Nat.le_of_ble_eq_true rfl) (Nat.le_of_ble_eq_true rfl) (Nat.le_of_ble_eq_true rfl) (Nat.le_of_ble_eq_true rfl) (Nat.le_of_ble_eq_true rfl) (z_gone I1 0 _) ?_
  rintro _ h2 H locs rfl hW hS
  dsimp only [Option.map, Option.toList, List.cons_append, List.nil_append, gtr]
  refine lv_icmp_eq (tgt := 1745) hx hb dL_781 (by decide) (fun _ => ?_) (fun z => absurd rfl z)
  exact law_end C0 hS hl
set_option maxRecDepth 100000 in
set_option maxHeartbeats 4000000 in
theorem law_18_opens {p : Program} {l : Launch} {e : Env} {s : State} {m : MethodId} {below : List Frame} {meth : Method} {c : Code} {bs : Nat} {xs : Nat → Int32} {D : va_G} {cy : Nat → ClassId} (C0 : lw_At p s m meth c bs 5 xs) (hF : gFx s.heap.size D cy s) {H : Heap} {locs : List Loc} {ls : Array Slot} (hS : va_S (gA s.heap.size) s.heap H locs) (hW : gWd s.heap.size D cy (SH0, RF0, I0) H) (hl : lv_has ls 4 [(0, .ref bs), (1, .ref (s.heap.size + 0)), (2, .ref (s.heap.size + 67)), (3, .int 0)]) : W p l e room_1 s m #[Value.ref bs] below meth c H locs 88 3546 (lw_Z below #[Value.ref bs] s) (F0 m 786 ls []) := by
  obtain ⟨hx, hb, hr, hml, hown, hts, hX, hbl, hlocks, hgv⟩ := id C0
  have hbA : ¬ gA s.heap.size bs := Nat.not_le.mpr hbl
  refine lv_aload_n hx hb dL_786 rfl (lv_at hl 1 rfl) ?_
  refine lv_aload_n hx hb dL_787 rfl (lv_at hl 0 rfl) ?_
  refine lv_iload_n hx hb dL_788 rfl (lv_at hl 3 rfl) ?_
  refine lv_iconst (v := 1) hx hb dL_789 (by decide) ?_
  refine lv_iadd hx hb dL_790 ?_
  refine va_sld hx hb hX hbl hbA hS (by unfold vp_in; decide) dL_791 ?_
  refine law_call (mc1 := 0) (ms1 := 0) (ci := 11) (x := 0) (mj := mX11_opens) (vs := [.int _]) (S := []) (d := 0 + 1) hx hb hml hown hts hF hS hW hl dL_792 rfl rfl cm_X11_opens wl_147 wl_148 wl_149 rfl (Nat.le_of_ble_eq_true rfl) (Nat.le_of_ble_eq_true rfl) (Nat.le_of_ble_eq_true rfl) (Nat.le_of_ble_eq_true rfl) (Nat.le_of_ble_eq_true rfl) (x_opens 0 _) ?_
  rintro _ _ H locs ⟨I1, rfl, rfl, hfar⟩ hW hS
  rw [gmx_eq hfar] at hW
  dsimp only [Option.map, Option.toList, List.cons_append, List.nil_append, gtr]
  refine lv_aload_n hx hb dL_795 rfl (lv_at hl 2 rfl) ?_
  refine lv_aload_n hx hb dL_796 rfl (lv_at hl 0 rfl) ?_
  refine lv_iload_n hx hb dL_797 rfl (lv_at hl 3 rfl) ?_
  refine lv_iconst (v := 1) hx hb dL_798 (by decide) ?_
  refine lv_iadd hx hb dL_799 ?_
  refine va_sld hx hb hX hbl hbA hS (by unfold vp_in; decide) dL_800 ?_
  refine law_call (mc1 := 0) (ms1 := 0) (ci := 12) (x := 67) (mj := mX12_opens) (vs := [.int _]) (S := [.int _]) (d := 0 + 2) hx hb hml hown hts hF hS hW hl dL_801 rfl rfl cm_X12_opens wl_151 wl_152 wl_153 rfl (Nat.le_of_ble_eq_true rfl) (Nat.le_of_ble_eq_true rfl) (Nat.le_of_ble_eq_true rfl) (Nat.le_of_ble_eq_true rfl) (Nat.le_of_ble_eq_true rfl) (z_opens I1 0 _) ?_
  rintro _ h2 H locs rfl hW hS
  dsimp only [Option.map, Option.toList, List.cons_append, List.nil_append, gtr]
  refine lv_icmp_eq (tgt := 1745) hx hb dL_804 (by decide) (fun _ => ?_) (fun z => absurd rfl z)
  exact law_end C0 hS hl
set_option maxRecDepth 100000 in
set_option maxHeartbeats 4000000 in
theorem law_19_left {p : Program} {l : Launch} {e : Env} {s : State} {m : MethodId} {below : List Frame} {meth : Method} {c : Code} {bs : Nat} {xs : Nat → Int32} {D : va_G} {cy : Nat → ClassId} (C0 : lw_At p s m meth c bs 5 xs) (hF : gFx s.heap.size D cy s) {H : Heap} {locs : List Loc} {ls : Array Slot} (hS : va_S (gA s.heap.size) s.heap H locs) (hW : gWd s.heap.size D cy (SH0, RF0, I0) H) (hl : lv_has ls 4 [(0, .ref bs), (1, .ref (s.heap.size + 0)), (2, .ref (s.heap.size + 67)), (3, .int 0)]) : W p l e room_1 s m #[Value.ref bs] below meth c H locs 88 3546 (lw_Z below #[Value.ref bs] s) (F0 m 809 ls []) := by
  obtain ⟨hx, hb, hr, hml, hown, hts, hX, hbl, hlocks, hgv⟩ := id C0
  have hbA : ¬ gA s.heap.size bs := Nat.not_le.mpr hbl
  refine lv_aload_n hx hb dL_809 rfl (lv_at hl 1 rfl) ?_
  refine lv_aload_n hx hb dL_810 rfl (lv_at hl 0 rfl) ?_
  refine lv_iload_n hx hb dL_811 rfl (lv_at hl 3 rfl) ?_
  refine lv_iconst (v := 1) hx hb dL_812 (by decide) ?_
  refine lv_iadd hx hb dL_813 ?_
  refine va_sld hx hb hX hbl hbA hS (by unfold vp_in; decide) dL_814 ?_
  refine lv_aload_n hx hb dL_815 rfl (lv_at hl 0 rfl) ?_
  refine lv_iload_n hx hb dL_816 rfl (lv_at hl 3 rfl) ?_
  refine lv_iconst (v := 2) hx hb dL_817 (by decide) ?_
  refine lv_iadd hx hb dL_818 ?_
  refine va_sld hx hb hX hbl hbA hS (by unfold vp_in; decide) dL_819 ?_
  refine law_call (mc1 := 0) (ms1 := 0) (ci := 11) (x := 0) (mj := mX11_left) (vs := [.int _, .int _]) (S := []) (d := 0 + 3) hx hb hml hown hts hF hS hW hl dL_820 rfl rfl cm_X11_left wl_155 wl_156 wl_157 rfl (Nat.le_of_ble_eq_true rfl) (Nat.le_of_ble_eq_true rfl) (Nat.le_of_ble_eq_true rfl) (Nat.le_of_ble_eq_true rfl) (Nat.le_of_ble_eq_true rfl) (x_left 0 _ _) ?_
  rintro _ _ H locs ⟨I1, rfl, rfl, hfar⟩ hW hS
  rw [gmx_eq hfar] at hW
  dsimp only [Option.map, Option.toList, List.cons_append, List.nil_append, gtr]
  refine lv_aload_n hx hb dL_823 rfl (lv_at hl 2 rfl) ?_
  refine lv_aload_n hx hb dL_824 rfl (lv_at hl 0 rfl) ?_
  refine lv_iload_n hx hb dL_825 rfl (lv_at hl 3 rfl) ?_
  refine lv_iconst (v := 1) hx hb dL_826 (by decide) ?_
  refine lv_iadd hx hb dL_827 ?_
  refine va_sld hx hb hX hbl hbA hS (by unfold vp_in; decide) dL_828 ?_
  refine lv_aload_n hx hb dL_829 rfl (lv_at hl 0 rfl) ?_
  refine lv_iload_n hx hb dL_830 rfl (lv_at hl 3 rfl) ?_
  refine lv_iconst (v := 2) hx hb dL_831 (by decide) ?_
  refine lv_iadd hx hb dL_832 ?_
  refine va_sld hx hb hX hbl hbA hS (by unfold vp_in; decide) dL_833 ?_
  refine law_call (mc1 := 0) (ms1 := 0) (ci := 12) (x := 67) (mj := mX12_left) (vs := [.int _, .int _]) (S := [.int _]) (d := 0 + 2) hx hb hml hown hts hF hS hW hl dL_834 rfl rfl cm_X12_left wl_159 wl_160 wl_161 rfl (Nat.le_of_ble_eq_true rfl) (Nat.le_of_ble_eq_true rfl) (Nat.le_of_ble_eq_true rfl) (Nat.le_of_ble_eq_true rfl) (Nat.le_of_ble_eq_true rfl) (z_left I1 0 _ _) ?_
  rintro _ h2 H locs rfl hW hS
  dsimp only [Option.map, Option.toList, List.cons_append, List.nil_append, gtr]
  refine lv_icmp_eq (tgt := 1745) hx hb dL_837 (by decide) (fun _ => ?_) (fun z => absurd rfl z)
  exact law_end C0 hS hl
set_option maxRecDepth 100000 in
set_option maxHeartbeats 4000000 in
theorem law_20_bunches {p : Program} {l : Launch} {e : Env} {s : State} {m : MethodId} {below : List Frame} {meth : Method} {c : Code} {bs : Nat} {xs : Nat → Int32} {D : va_G} {cy : Nat → ClassId} (C0 : lw_At p s m meth c bs 5 xs) (hF : gFx s.heap.size D cy s) {H : Heap} {locs : List Loc} {ls : Array Slot} (hS : va_S (gA s.heap.size) s.heap H locs) (hW : gWd s.heap.size D cy (SH0, RF0, I0) H) (hl : lv_has ls 4 [(0, .ref bs), (1, .ref (s.heap.size + 0)), (2, .ref (s.heap.size + 67)), (3, .int 0)]) : W p l e room_1 s m #[Value.ref bs] below meth c H locs 88 3546 (lw_Z below #[Value.ref bs] s) (F0 m 842 ls []) := by
  obtain ⟨hx, hb, hr, hml, hown, hts, hX, hbl, hlocks, hgv⟩ := id C0
  have hbA : ¬ gA s.heap.size bs := Nat.not_le.mpr hbl
  refine lv_aload_n hx hb dL_842 rfl (lv_at hl 1 rfl) ?_
  refine lv_aload_n hx hb dL_843 rfl (lv_at hl 0 rfl) ?_
  refine lv_iload_n hx hb dL_844 rfl (lv_at hl 3 rfl) ?_
  refine lv_iconst (v := 1) hx hb dL_845 (by decide) ?_
  refine lv_iadd hx hb dL_846 ?_
  refine va_sld hx hb hX hbl hbA hS (by unfold vp_in; decide) dL_847 ?_
  refine law_call (mc1 := 0) (ms1 := 0) (ci := 11) (x := 0) (mj := mX11_bunches) (vs := [.int _]) (S := []) (d := 0 + 1) hx hb hml hown hts hF hS hW hl dL_848 rfl rfl cm_X11_bunches wl_163 wl_164 wl_165 rfl (Nat.le_of_ble_eq_true rfl) (Nat.le_of_ble_eq_true rfl) (Nat.le_of_ble_eq_true rfl) (Nat.le_of_ble_eq_true rfl) (Nat.le_of_ble_eq_true rfl) (x_bunches 0 _) ?_
  rintro _ _ H locs ⟨I1, rfl, rfl, hfar⟩ hW hS
  rw [gmx_eq hfar] at hW
  dsimp only [Option.map, Option.toList, List.cons_append, List.nil_append, gtr]
  refine lv_aload_n hx hb dL_851 rfl (lv_at hl 2 rfl) ?_
  refine lv_aload_n hx hb dL_852 rfl (lv_at hl 0 rfl) ?_
  refine lv_iload_n hx hb dL_853 rfl (lv_at hl 3 rfl) ?_
  refine lv_iconst (v := 1) hx hb dL_854 (by decide) ?_
  refine lv_iadd hx hb dL_855 ?_
  refine va_sld hx hb hX hbl hbA hS (by unfold vp_in; decide) dL_856 ?_
  refine law_call (mc1 := 0) (ms1 := 0) (ci := 12) (x := 67) (mj := mX12_bunches) (vs := [.int _]) (S := [.int _]) (d := 0 + 2) hx hb hml hown hts hF hS hW hl dL_857 rfl rfl cm_X12_bunches wl_167 wl_168 wl_169 rfl (Nat.le_of_ble_eq_true rfl) (Nat.le_of_ble_eq_true rfl) (Nat.le_of_ble_eq_true rfl) (Nat.le_of_ble_eq_true rfl) (Nat.le_of_ble_eq_true rfl) (z_bunches I1 0 _) ?_
  rintro _ h2 H locs rfl hW hS
  dsimp only [Option.map, Option.toList, List.cons_append, List.nil_append, gtr]
  refine lv_icmp_eq (tgt := 1745) hx hb dL_860 (by decide) (fun _ => ?_) (fun z => absurd rfl z)
  exact law_end C0 hS hl
set_option maxRecDepth 100000 in
set_option maxHeartbeats 4000000 in
theorem law_21_best {p : Program} {l : Launch} {e : Env} {s : State} {m : MethodId} {below : List Frame} {meth : Method} {c : Code} {bs : Nat} {xs : Nat → Int32} {D : va_G} {cy : Nat → ClassId} (C0 : lw_At p s m meth c bs 5 xs) (hF : gFx s.heap.size D cy s) {H : Heap} {locs : List Loc} {ls : Array Slot} (hS : va_S (gA s.heap.size) s.heap H locs) (hW : gWd s.heap.size D cy (SH0, RF0, I0) H) (hl : lv_has ls 4 [(0, .ref bs), (1, .ref (s.heap.size + 0)), (2, .ref (s.heap.size + 67)), (3, .int 0)]) : W p l e room_1 s m #[Value.ref bs] below meth c H locs 88 3546 (lw_Z below #[Value.ref bs] s) (F0 m 865 ls []) := by
  obtain ⟨hx, hb, hr, hml, hown, hts, hX, hbl, hlocks, hgv⟩ := id C0
  have hbA : ¬ gA s.heap.size bs := Nat.not_le.mpr hbl
  refine lv_aload_n hx hb dL_865 rfl (lv_at hl 1 rfl) ?_
  refine lv_aload_n hx hb dL_866 rfl (lv_at hl 0 rfl) ?_
  refine lv_iload_n hx hb dL_867 rfl (lv_at hl 3 rfl) ?_
  refine lv_iconst (v := 1) hx hb dL_868 (by decide) ?_
  refine lv_iadd hx hb dL_869 ?_
  refine va_sld hx hb hX hbl hbA hS (by unfold vp_in; decide) dL_870 ?_
  refine law_call (mc1 := 0) (ms1 := 0) (ci := 11) (x := 0) (mj := mX11_best) (vs := [.int _]) (S := []) (d := 0 + 6) hx hb hml hown hts hF hS hW hl dL_871 rfl rfl cm_X11_best wl_171 wl_172 wl_173 rfl (Nat.le_of_ble_eq_true rfl) (Nat.le_of_ble_eq_true rfl) (Nat.le_of_ble_eq_true rfl) (Nat.le_of_ble_eq_true rfl) (Nat.le_of_ble_eq_true rfl) (x_best 0 _) ?_
  rintro _ _ H locs ⟨I1, rfl, rfl, hfar⟩ hW hS
  rw [gmx_eq hfar] at hW
  dsimp only [Option.map, Option.toList, List.cons_append, List.nil_append, gtr]
  refine lv_aload_n hx hb dL_874 rfl (lv_at hl 2 rfl) ?_
  refine lv_aload_n hx hb dL_875 rfl (lv_at hl 0 rfl) ?_
  refine lv_iload_n hx hb dL_876 rfl (lv_at hl 3 rfl) ?_
  refine lv_iconst (v := 1) hx hb dL_877 (by decide) ?_
  refine lv_iadd hx hb dL_878 ?_
  refine va_sld hx hb hX hbl hbA hS (by unfold vp_in; decide) dL_879 ?_
  refine law_call (mc1 := 0) (ms1 := 0) (ci := 12) (x := 67) (mj := mX12_best) (vs := [.int _]) (S := [.int _]) (d := 0 + 8) hx hb hml hown hts hF hS hW hl dL_880 rfl rfl cm_X12_best wl_175 wl_176 wl_177 rfl (Nat.le_of_ble_eq_true rfl) (Nat.le_of_ble_eq_true rfl) (Nat.le_of_ble_eq_true rfl) (Nat.le_of_ble_eq_true rfl) (Nat.le_of_ble_eq_true rfl) (z_best I1 0 _) ?_
  rintro _ h2 H locs rfl hW hS
  dsimp only [Option.map, Option.toList, List.cons_append, List.nil_append, gtr]
  refine lv_icmp_eq (tgt := 1745) hx hb dL_883 (by decide) (fun _ => ?_) (fun z => absurd rfl z)
  exact law_end C0 hS hl
set_option maxRecDepth 100000 in
set_option maxHeartbeats 4000000 in
theorem law_22_ith {p : Program} {l : Launch} {e : Env} {s : State} {m : MethodId} {below : List Frame} {meth : Method} {c : Code} {bs : Nat} {xs : Nat → Int32} {D : va_G} {cy : Nat → ClassId} (C0 : lw_At p s m meth c bs 5 xs) (hF : gFx s.heap.size D cy s) {H : Heap} {locs : List Loc} {ls : Array Slot} (hS : va_S (gA s.heap.size) s.heap H locs) (hW : gWd s.heap.size D cy (SH0, RF0, I0) H) (hl : lv_has ls 4 [(0, .ref bs), (1, .ref (s.heap.size + 0)), (2, .ref (s.heap.size + 67)), (3, .int 0)]) : W p l e room_1 s m #[Value.ref bs] below meth c H locs 88 3546 (lw_Z below #[Value.ref bs] s) (F0 m 888 ls []) := by
  obtain ⟨hx, hb, hr, hml, hown, hts, hX, hbl, hlocks, hgv⟩ := id C0
  have hbA : ¬ gA s.heap.size bs := Nat.not_le.mpr hbl
  refine lv_aload_n hx hb dL_888 rfl (lv_at hl 1 rfl) ?_
  refine lv_aload_n hx hb dL_889 rfl (lv_at hl 0 rfl) ?_
  refine lv_iload_n hx hb dL_890 rfl (lv_at hl 3 rfl) ?_
  refine lv_iconst (v := 1) hx hb dL_891 (by decide) ?_
  refine lv_iadd hx hb dL_892 ?_
  refine va_sld hx hb hX hbl hbA hS (by unfold vp_in; decide) dL_893 ?_
  refine lv_aload_n hx hb dL_894 rfl (lv_at hl 0 rfl) ?_
  refine lv_iload_n hx hb dL_895 rfl (lv_at hl 3 rfl) ?_
  refine lv_iconst (v := 2) hx hb dL_896 (by decide) ?_
  refine lv_iadd hx hb dL_897 ?_
  refine va_sld hx hb hX hbl hbA hS (by unfold vp_in; decide) dL_898 ?_
  refine law_call (mc1 := 0) (ms1 := 0) (ci := 11) (x := 0) (mj := mX11_ith) (vs := [.int _, .int _]) (S := []) (d := 0 + 6) hx hb hml hown hts hF hS hW hl dL_899 rfl rfl cm_X11_ith wl_179 wl_180 wl_181 rfl (Nat.le_of_ble_eq_true rfl) (Nat.le_of_ble_eq_true rfl) (Nat.le_of_ble_eq_true rfl) (Nat.le_of_ble_eq_true rfl) (Nat.le_of_ble_eq_true rfl) (x_ith 0 _ _) ?_
  rintro _ _ H locs ⟨I1, rfl, rfl, hfar⟩ hW hS
  rw [gmx_eq hfar] at hW
  dsimp only [Option.map, Option.toList, List.cons_append, List.nil_append, gtr]
  refine lv_aload_n hx hb dL_902 rfl (lv_at hl 2 rfl) ?_
  refine lv_aload_n hx hb dL_903 rfl (lv_at hl 0 rfl) ?_
  refine lv_iload_n hx hb dL_904 rfl (lv_at hl 3 rfl) ?_
  refine lv_iconst (v := 1) hx hb dL_905 (by decide) ?_
  refine lv_iadd hx hb dL_906 ?_
  refine va_sld hx hb hX hbl hbA hS (by unfold vp_in; decide) dL_907 ?_
  refine lv_aload_n hx hb dL_908 rfl (lv_at hl 0 rfl) ?_
  refine lv_iload_n hx hb dL_909 rfl (lv_at hl 3 rfl) ?_
  refine lv_iconst (v := 2) hx hb dL_910 (by decide) ?_
  refine lv_iadd hx hb dL_911 ?_
  refine va_sld hx hb hX hbl hbA hS (by unfold vp_in; decide) dL_912 ?_
  refine law_call (mc1 := 0) (ms1 := 0) (ci := 12) (x := 67) (mj := mX12_ith) (vs := [.int _, .int _]) (S := [.int _]) (d := 0 + 8) hx hb hml hown hts hF hS hW hl dL_913 rfl rfl cm_X12_ith wl_183 wl_184 wl_185 rfl (Nat.le_of_ble_eq_true rfl) (Nat.le_of_ble_eq_true rfl) (Nat.le_of_ble_eq_true rfl) (Nat.le_of_ble_eq_true rfl) (Nat.le_of_ble_eq_true rfl) (z_ith I1 0 _ _) ?_
  rintro _ h2 H locs rfl hW hS
  dsimp only [Option.map, Option.toList, List.cons_append, List.nil_append, gtr]
  refine lv_icmp_eq (tgt := 1745) hx hb dL_916 (by decide) (fun _ => ?_) (fun z => absurd rfl z)
  exact law_end C0 hS hl
set_option maxRecDepth 100000 in
set_option maxHeartbeats 4000000 in
theorem law_23_ways {p : Program} {l : Launch} {e : Env} {s : State} {m : MethodId} {below : List Frame} {meth : Method} {c : Code} {bs : Nat} {xs : Nat → Int32} {D : va_G} {cy : Nat → ClassId} (C0 : lw_At p s m meth c bs 5 xs) (hF : gFx s.heap.size D cy s) {H : Heap} {locs : List Loc} {ls : Array Slot} (hS : va_S (gA s.heap.size) s.heap H locs) (hW : gWd s.heap.size D cy (SH0, RF0, I0) H) (hl : lv_has ls 4 [(0, .ref bs), (1, .ref (s.heap.size + 0)), (2, .ref (s.heap.size + 67)), (3, .int 0)]) : W p l e room_1 s m #[Value.ref bs] below meth c H locs 88 3546 (lw_Z below #[Value.ref bs] s) (F0 m 921 ls []) := by
  obtain ⟨hx, hb, hr, hml, hown, hts, hX, hbl, hlocks, hgv⟩ := id C0
  have hbA : ¬ gA s.heap.size bs := Nat.not_le.mpr hbl
  refine lv_aload_n hx hb dL_921 rfl (lv_at hl 1 rfl) ?_
  refine lv_aload_n hx hb dL_922 rfl (lv_at hl 0 rfl) ?_
  refine lv_iload_n hx hb dL_923 rfl (lv_at hl 3 rfl) ?_
  refine lv_iconst (v := 1) hx hb dL_924 (by decide) ?_
  refine lv_iadd hx hb dL_925 ?_
  refine va_sld hx hb hX hbl hbA hS (by unfold vp_in; decide) dL_926 ?_
  refine law_call (mc1 := 0) (ms1 := 0) (ci := 11) (x := 0) (mj := mX11_ways) (vs := [.int _]) (S := []) (d := 0 + 6) hx hb hml hown hts hF hS hW hl dL_927 rfl rfl cm_X11_ways wl_187 wl_188 wl_189 rfl (Nat.le_of_ble_eq_true rfl) (Nat.le_of_ble_eq_true rfl) (Nat.le_of_ble_eq_true rfl) (Nat.le_of_ble_eq_true rfl) (Nat.le_of_ble_eq_true rfl) (x_ways 0 _) ?_
  rintro _ _ H locs ⟨I1, rfl, rfl, hfar⟩ hW hS
  rw [gmx_eq hfar] at hW
  dsimp only [Option.map, Option.toList, List.cons_append, List.nil_append, gtr]
  refine lv_aload_n hx hb dL_930 rfl (lv_at hl 2 rfl) ?_
  refine lv_aload_n hx hb dL_931 rfl (lv_at hl 0 rfl) ?_
  refine lv_iload_n hx hb dL_932 rfl (lv_at hl 3 rfl) ?_
  refine lv_iconst (v := 1) hx hb dL_933 (by decide) ?_
  refine lv_iadd hx hb dL_934 ?_
  refine va_sld hx hb hX hbl hbA hS (by unfold vp_in; decide) dL_935 ?_
  refine law_call (mc1 := 0) (ms1 := 0) (ci := 12) (x := 67) (mj := mX12_ways) (vs := [.int _]) (S := [.int _]) (d := 0 + 8) hx hb hml hown hts hF hS hW hl dL_936 rfl rfl cm_X12_ways wl_191 wl_192 wl_193 rfl (Nat.le_of_ble_eq_true rfl) (Nat.le_of_ble_eq_true rfl) (Nat.le_of_ble_eq_true rfl) (Nat.le_of_ble_eq_true rfl) (Nat.le_of_ble_eq_true rfl) (z_ways I1 0 _) ?_
  rintro _ h2 H locs rfl hW hS
  dsimp only [Option.map, Option.toList, List.cons_append, List.nil_append, gtr]
  refine lv_icmp_eq (tgt := 1745) hx hb dL_939 (by decide) (fun _ => ?_) (fun z => absurd rfl z)
  exact law_end C0 hS hl
set_option maxRecDepth 100000 in
set_option maxHeartbeats 4000000 in
theorem law_24_order {p : Program} {l : Launch} {e : Env} {s : State} {m : MethodId} {below : List Frame} {meth : Method} {c : Code} {bs : Nat} {xs : Nat → Int32} {D : va_G} {cy : Nat → ClassId} (C0 : lw_At p s m meth c bs 5 xs) (hF : gFx s.heap.size D cy s) {H : Heap} {locs : List Loc} {ls : Array Slot} (hS : va_S (gA s.heap.size) s.heap H locs) (hW : gWd s.heap.size D cy (SH0, RF0, I0) H) (hl : lv_has ls 4 [(0, .ref bs), (1, .ref (s.heap.size + 0)), (2, .ref (s.heap.size + 67)), (3, .int 0)]) : W p l e room_1 s m #[Value.ref bs] below meth c H locs 88 3546 (lw_Z below #[Value.ref bs] s) (F0 m 944 ls []) := by
  obtain ⟨hx, hb, hr, hml, hown, hts, hX, hbl, hlocks, hgv⟩ := id C0
  have hbA : ¬ gA s.heap.size bs := Nat.not_le.mpr hbl
  refine lv_aload_n hx hb dL_944 rfl (lv_at hl 1 rfl) ?_
  refine lv_aload_n hx hb dL_945 rfl (lv_at hl 0 rfl) ?_
  refine lv_iload_n hx hb dL_946 rfl (lv_at hl 3 rfl) ?_
  refine lv_iconst (v := 1) hx hb dL_947 (by decide) ?_
  refine lv_iadd hx hb dL_948 ?_
  refine va_sld hx hb hX hbl hbA hS (by unfold vp_in; decide) dL_949 ?_
  refine lv_aload_n hx hb dL_950 rfl (lv_at hl 0 rfl) ?_
  refine lv_iload_n hx hb dL_951 rfl (lv_at hl 3 rfl) ?_
  refine lv_iconst (v := 2) hx hb dL_952 (by decide) ?_
  refine lv_iadd hx hb dL_953 ?_
  refine va_sld hx hb hX hbl hbA hS (by unfold vp_in; decide) dL_954 ?_
  refine law_call (mc1 := 0) (ms1 := 0) (ci := 11) (x := 0) (mj := mX11_order) (vs := [.int _, .int _]) (S := []) (d := 0 + 2) hx hb hml hown hts hF hS hW hl dL_955 rfl rfl cm_X11_order wl_195 wl_196 wl_197 rfl (Nat.le_of_ble_eq_true rfl) (Nat.le_of_ble_eq_true rfl) (Nat.le_of_ble_eq_true rfl) (Nat.le_of_ble_eq_true rfl) (Nat.le_of_ble_eq_true rfl) (x_order 0 _ _) ?_
  rintro _ _ H locs ⟨I1, rfl, rfl, hfar⟩ hW hS
  rw [gmx_eq hfar] at hW
  dsimp only [Option.map, Option.toList, List.cons_append, List.nil_append, gtr]
  refine lv_aload_n hx hb dL_958 rfl (lv_at hl 2 rfl) ?_
  refine lv_aload_n hx hb dL_959 rfl (lv_at hl 0 rfl) ?_
  refine lv_iload_n hx hb dL_960 rfl (lv_at hl 3 rfl) ?_
  refine lv_iconst (v := 1) hx hb dL_961 (by decide) ?_
  refine lv_iadd hx hb dL_962 ?_
  refine va_sld hx hb hX hbl hbA hS (by unfold vp_in; decide) dL_963 ?_
  refine lv_aload_n hx hb dL_964 rfl (lv_at hl 0 rfl) ?_
  refine lv_iload_n hx hb dL_965 rfl (lv_at hl 3 rfl) ?_
  refine lv_iconst (v := 2) hx hb dL_966 (by decide) ?_
  refine lv_iadd hx hb dL_967 ?_
  refine va_sld hx hb hX hbl hbA hS (by unfold vp_in; decide) dL_968 ?_
  refine law_call (mc1 := 0) (ms1 := 0) (ci := 12) (x := 67) (mj := mX12_order) (vs := [.int _, .int _]) (S := [.int _]) (d := 0 + 8) hx hb hml hown hts hF hS hW hl dL_969 rfl rfl cm_X12_order wl_199 wl_200 wl_201 rfl (Nat.le_of_ble_eq_true rfl) (Nat.le_of_ble_eq_true rfl) (Nat.le_of_ble_eq_true rfl) (Nat.le_of_ble_eq_true rfl) (Nat.le_of_ble_eq_true rfl) (z_order I1 0 _ _) ?_
  rintro _ h2 H locs rfl hW hS
  dsimp only [Option.map, Option.toList, List.cons_append, List.nil_append, gtr]
  refine lv_icmp_eq (tgt := 1745) hx hb dL_972 (by decide) (fun _ => ?_) (fun z => absurd rfl z)
  exact law_end C0 hS hl
set_option maxRecDepth 100000 in
set_option maxHeartbeats 4000000 in
theorem law_25_bars {p : Program} {l : Launch} {e : Env} {s : State} {m : MethodId} {below : List Frame} {meth : Method} {c : Code} {bs : Nat} {xs : Nat → Int32} {D : va_G} {cy : Nat → ClassId} (C0 : lw_At p s m meth c bs 5 xs) (hF : gFx s.heap.size D cy s) {H : Heap} {locs : List Loc} {ls : Array Slot} (hS : va_S (gA s.heap.size) s.heap H locs) (hW : gWd s.heap.size D cy (SH0, RF0, I0) H) (hl : lv_has ls 4 [(0, .ref bs), (1, .ref (s.heap.size + 0)), (2, .ref (s.heap.size + 67)), (3, .int 0)]) : W p l e room_1 s m #[Value.ref bs] below meth c H locs 88 3546 (lw_Z below #[Value.ref bs] s) (F0 m 977 ls []) := by
  obtain ⟨hx, hb, hr, hml, hown, hts, hX, hbl, hlocks, hgv⟩ := id C0
  have hbA : ¬ gA s.heap.size bs := Nat.not_le.mpr hbl
  refine lv_aload_n hx hb dL_977 rfl (lv_at hl 1 rfl) ?_
  refine lv_aload_n hx hb dL_978 rfl (lv_at hl 0 rfl) ?_
  refine lv_iload_n hx hb dL_979 rfl (lv_at hl 3 rfl) ?_
  refine lv_iconst (v := 1) hx hb dL_980 (by decide) ?_
  refine lv_iadd hx hb dL_981 ?_
  refine va_sld hx hb hX hbl hbA hS (by unfold vp_in; decide) dL_982 ?_
  refine lv_aload_n hx hb dL_983 rfl (lv_at hl 0 rfl) ?_
  refine lv_iload_n hx hb dL_984 rfl (lv_at hl 3 rfl) ?_
  refine lv_iconst (v := 2) hx hb dL_985 (by decide) ?_
  refine lv_iadd hx hb dL_986 ?_
  refine va_sld hx hb hX hbl hbA hS (by unfold vp_in; decide) dL_987 ?_
  refine law_call (mc1 := 0) (ms1 := 0) (ci := 11) (x := 0) (mj := mX11_bars) (vs := [.int _, .int _]) (S := []) (d := 0 + 6) hx hb hml hown hts hF hS hW hl dL_988 rfl rfl cm_X11_bars wl_203 wl_204 wl_205 rfl (Nat.le_of_ble_eq_true rfl) (Nat.le_of_ble_eq_true rfl) (Nat.le_of_ble_eq_true rfl) (Nat.le_of_ble_eq_true rfl) (Nat.le_of_ble_eq_true rfl) (x_bars 0 _ _) ?_
  rintro _ _ H locs ⟨I1, rfl, rfl, hfar⟩ hW hS
  rw [gmx_eq hfar] at hW
  dsimp only [Option.map, Option.toList, List.cons_append, List.nil_append, gtr]
  refine lv_aload_n hx hb dL_991 rfl (lv_at hl 2 rfl) ?_
  refine lv_aload_n hx hb dL_992 rfl (lv_at hl 0 rfl) ?_
  refine lv_iload_n hx hb dL_993 rfl (lv_at hl 3 rfl) ?_
  refine lv_iconst (v := 1) hx hb dL_994 (by decide) ?_
  refine lv_iadd hx hb dL_995 ?_
  refine va_sld hx hb hX hbl hbA hS (by unfold vp_in; decide) dL_996 ?_
  refine lv_aload_n hx hb dL_997 rfl (lv_at hl 0 rfl) ?_
  refine lv_iload_n hx hb dL_998 rfl (lv_at hl 3 rfl) ?_
  refine lv_iconst (v := 2) hx hb dL_999 (by decide) ?_
  refine lv_iadd hx hb dL_1000 ?_
  refine va_sld hx hb hX hbl hbA hS (by unfold vp_in; decide) dL_1001 ?_
  refine law_call (mc1 := 0) (ms1 := 0) (ci := 12) (x := 67) (mj := mX12_bars) (vs := [.int _, .int _]) (S := [.int _]) (d := 0 + 8) hx hb hml hown hts hF hS hW hl dL_1002 rfl rfl cm_X12_bars wl_207 wl_208 wl_209 rfl (Nat.le_of_ble_eq_true rfl) (Nat.le_of_ble_eq_true rfl) (Nat.le_of_ble_eq_true rfl) (Nat.le_of_ble_eq_true rfl) (Nat.le_of_ble_eq_true rfl) (z_bars I1 0 _ _) ?_
  rintro _ h2 H locs rfl hW hS
  dsimp only [Option.map, Option.toList, List.cons_append, List.nil_append, gtr]
  refine lv_icmp_eq (tgt := 1745) hx hb dL_1005 (by decide) (fun _ => ?_) (fun z => absurd rfl z)
  exact law_end C0 hS hl
set_option maxRecDepth 100000 in
set_option maxHeartbeats 4000000 in
theorem law_26_game {p : Program} {l : Launch} {e : Env} {s : State} {m : MethodId} {below : List Frame} {meth : Method} {c : Code} {bs : Nat} {xs : Nat → Int32} {D : va_G} {cy : Nat → ClassId} (C0 : lw_At p s m meth c bs 5 xs) (hF : gFx s.heap.size D cy s) {H : Heap} {locs : List Loc} {ls : Array Slot} (hS : va_S (gA s.heap.size) s.heap H locs) (hW : gWd s.heap.size D cy (SH0, RF0, I0) H) (hl : lv_has ls 4 [(0, .ref bs), (1, .ref (s.heap.size + 0)), (2, .ref (s.heap.size + 67)), (3, .int 0)]) : W p l e room_1 s m #[Value.ref bs] below meth c H locs 88 3546 (lw_Z below #[Value.ref bs] s) (F0 m 1010 ls []) := by
  obtain ⟨hx, hb, hr, hml, hown, hts, hX, hbl, hlocks, hgv⟩ := id C0
  have hbA : ¬ gA s.heap.size bs := Nat.not_le.mpr hbl
  refine lv_aload_n hx hb dL_1010 rfl (lv_at hl 1 rfl) ?_
  refine lv_aload_n hx hb dL_1011 rfl (lv_at hl 0 rfl) ?_
  refine lv_iload_n hx hb dL_1012 rfl (lv_at hl 3 rfl) ?_
  refine lv_iconst (v := 1) hx hb dL_1013 (by decide) ?_
  refine lv_iadd hx hb dL_1014 ?_
  refine va_sld hx hb hX hbl hbA hS (by unfold vp_in; decide) dL_1015 ?_
  refine law_call (mc1 := 0) (ms1 := 0) (ci := 11) (x := 0) (mj := mX11_game) (vs := [.int _]) (S := []) (d := 0 + 6) hx hb hml hown hts hF hS hW hl dL_1016 rfl rfl cm_X11_game wl_211 wl_212 wl_213 rfl (Nat.le_of_ble_eq_true rfl) (Nat.le_of_ble_eq_true rfl) (Nat.le_of_ble_eq_true rfl) (Nat.le_of_ble_eq_true rfl) (Nat.le_of_ble_eq_true rfl) (x_game 0 _) ?_
  rintro _ _ H locs ⟨I1, rfl, rfl, hfar⟩ hW hS
  rw [gmx_eq hfar] at hW
  dsimp only [Option.map, Option.toList, List.cons_append, List.nil_append, gtr]
  refine lv_aload_n hx hb dL_1019 rfl (lv_at hl 2 rfl) ?_
  refine lv_aload_n hx hb dL_1020 rfl (lv_at hl 0 rfl) ?_
  refine lv_iload_n hx hb dL_1021 rfl (lv_at hl 3 rfl) ?_
  refine lv_iconst (v := 1) hx hb dL_1022 (by decide) ?_
  refine lv_iadd hx hb dL_1023 ?_
  refine va_sld hx hb hX hbl hbA hS (by unfold vp_in; decide) dL_1024 ?_
  refine law_call (mc1 := 0) (ms1 := 0) (ci := 12) (x := 67) (mj := mX12_game) (vs := [.int _]) (S := [.int _]) (d := 0 + 5) hx hb hml hown hts hF hS hW hl dL_1025 rfl rfl cm_X12_game wl_215 wl_216 wl_217 rfl (Nat.le_of_ble_eq_true rfl) (Nat.le_of_ble_eq_true rfl) (Nat.le_of_ble_eq_true rfl) (Nat.le_of_ble_eq_true rfl) (Nat.le_of_ble_eq_true rfl) (z_game I1 0 _) ?_
  rintro _ h2 H locs rfl hW hS
  dsimp only [Option.map, Option.toList, List.cons_append, List.nil_append, gtr]
  refine lv_icmp_eq (tgt := 1745) hx hb dL_1028 (by decide) (fun _ => ?_) (fun z => absurd rfl z)
  exact law_end C0 hS hl
set_option maxRecDepth 100000 in
set_option maxHeartbeats 4000000 in
theorem law_27_play {p : Program} {l : Launch} {e : Env} {s : State} {m : MethodId} {below : List Frame} {meth : Method} {c : Code} {bs : Nat} {xs : Nat → Int32} {D : va_G} {cy : Nat → ClassId} (C0 : lw_At p s m meth c bs 5 xs) (hF : gFx s.heap.size D cy s) {H : Heap} {locs : List Loc} {ls : Array Slot} (hS : va_S (gA s.heap.size) s.heap H locs) (hW : gWd s.heap.size D cy (SH0, RF0, I0) H) (hl : lv_has ls 4 [(0, .ref bs), (1, .ref (s.heap.size + 0)), (2, .ref (s.heap.size + 67)), (3, .int 0)]) : W p l e room_1 s m #[Value.ref bs] below meth c H locs 88 3546 (lw_Z below #[Value.ref bs] s) (F0 m 1033 ls []) := by
  obtain ⟨hx, hb, hr, hml, hown, hts, hX, hbl, hlocks, hgv⟩ := id C0
  have hbA : ¬ gA s.heap.size bs := Nat.not_le.mpr hbl
  refine lv_aload_n hx hb dL_1033 rfl (lv_at hl 1 rfl) ?_
  refine lv_aload_n hx hb dL_1034 rfl (lv_at hl 0 rfl) ?_
  refine lv_iload_n hx hb dL_1035 rfl (lv_at hl 3 rfl) ?_
  refine lv_iconst (v := 1) hx hb dL_1036 (by decide) ?_
  refine lv_iadd hx hb dL_1037 ?_
  refine va_sld hx hb hX hbl hbA hS (by unfold vp_in; decide) dL_1038 ?_
  refine law_call (mc1 := 0) (ms1 := 0) (ci := 11) (x := 0) (mj := mX11_play) (vs := [.int _]) (S := []) (d := 0 + 6) hx hb hml hown hts hF hS hW hl dL_1039 rfl rfl cm_X11_play wl_219 wl_220 wl_221 rfl (Nat.le_of_ble_eq_true rfl) (Nat.le_of_ble_eq_true rfl) (Nat.le_of_ble_eq_true rfl) (Nat.le_of_ble_eq_true rfl) (Nat.le_of_ble_eq_true rfl) (x_play 0 _) ?_
  rintro _ _ H locs ⟨I1, rfl, rfl, hfar⟩ hW hS
  rw [gmx_eq hfar] at hW
  dsimp only [Option.map, Option.toList, List.cons_append, List.nil_append, gtr]
  refine lv_aload_n hx hb dL_1042 rfl (lv_at hl 2 rfl) ?_
  refine lv_aload_n hx hb dL_1043 rfl (lv_at hl 0 rfl) ?_
  refine lv_iload_n hx hb dL_1044 rfl (lv_at hl 3 rfl) ?_
  refine lv_iconst (v := 1) hx hb dL_1045 (by decide) ?_
  refine lv_iadd hx hb dL_1046 ?_
  refine va_sld hx hb hX hbl hbA hS (by unfold vp_in; decide) dL_1047 ?_
  refine law_call (mc1 := 0) (ms1 := 0) (ci := 12) (x := 67) (mj := mX12_play) (vs := [.int _]) (S := [.int _]) (d := 0 + 5) hx hb hml hown hts hF hS hW hl dL_1048 rfl rfl cm_X12_play wl_223 wl_224 wl_225 rfl (Nat.le_of_ble_eq_true rfl) (Nat.le_of_ble_eq_true rfl) (Nat.le_of_ble_eq_true rfl) (Nat.le_of_ble_eq_true rfl) (Nat.le_of_ble_eq_true rfl) (z_play I1 0 _) ?_
  rintro _ h2 H locs rfl hW hS
  dsimp only [Option.map, Option.toList, List.cons_append, List.nil_append, gtr]
  refine lv_icmp_eq (tgt := 1745) hx hb dL_1051 (by decide) (fun _ => ?_) (fun z => absurd rfl z)
  exact law_end C0 hS hl
set_option maxRecDepth 100000 in
set_option maxHeartbeats 4000000 in
theorem law_28_report {p : Program} {l : Launch} {e : Env} {s : State} {m : MethodId} {below : List Frame} {meth : Method} {c : Code} {bs : Nat} {xs : Nat → Int32} {D : va_G} {cy : Nat → ClassId} (C0 : lw_At p s m meth c bs 5 xs) (hF : gFx s.heap.size D cy s) {H : Heap} {locs : List Loc} {ls : Array Slot} (hS : va_S (gA s.heap.size) s.heap H locs) (hW : gWd s.heap.size D cy (SH0, RF0, I0) H) (hl : lv_has ls 4 [(0, .ref bs), (1, .ref (s.heap.size + 0)), (2, .ref (s.heap.size + 67)), (3, .int 0)]) : W p l e room_1 s m #[Value.ref bs] below meth c H locs 88 3546 (lw_Z below #[Value.ref bs] s) (F0 m 1056 ls []) := by
  obtain ⟨hx, hb, hr, hml, hown, hts, hX, hbl, hlocks, hgv⟩ := id C0
  have hbA : ¬ gA s.heap.size bs := Nat.not_le.mpr hbl
  refine lv_aload_n hx hb dL_1056 rfl (lv_at hl 1 rfl) ?_
  refine lv_aload_n hx hb dL_1057 rfl (lv_at hl 0 rfl) ?_
  refine lv_iload_n hx hb dL_1058 rfl (lv_at hl 3 rfl) ?_
  refine lv_iconst (v := 1) hx hb dL_1059 (by decide) ?_
  refine lv_iadd hx hb dL_1060 ?_
  refine va_sld hx hb hX hbl hbA hS (by unfold vp_in; decide) dL_1061 ?_
  refine lv_aload_n hx hb dL_1062 rfl (lv_at hl 0 rfl) ?_
  refine lv_iload_n hx hb dL_1063 rfl (lv_at hl 3 rfl) ?_
  refine lv_iconst (v := 2) hx hb dL_1064 (by decide) ?_
  refine lv_iadd hx hb dL_1065 ?_
  refine va_sld hx hb hX hbl hbA hS (by unfold vp_in; decide) dL_1066 ?_
  refine lv_aload_n hx hb dL_1067 rfl (lv_at hl 0 rfl) ?_
  refine lv_iload_n hx hb dL_1068 rfl (lv_at hl 3 rfl) ?_
  refine lv_iconst (v := 3) hx hb dL_1069 (by decide) ?_
  refine lv_iadd hx hb dL_1070 ?_
  refine va_sld hx hb hX hbl hbA hS (by unfold vp_in; decide) dL_1071 ?_
  refine lv_aload_n hx hb dL_1072 rfl (lv_at hl 0 rfl) ?_
  refine lv_iload_n hx hb dL_1073 rfl (lv_at hl 3 rfl) ?_
  refine lv_iconst (v := 4) hx hb dL_1074 (by decide) ?_
  refine lv_iadd hx hb dL_1075 ?_
  refine va_sld hx hb hX hbl hbA hS (by unfold vp_in; decide) dL_1076 ?_
  refine law_call (mc1 := 0) (ms1 := 0) (ci := 11) (x := 0) (mj := mX11_report) (vs := [.int _, .int _, .int _, .int _]) (S := []) (d := 0 + 1) hx hb hml hown hts hF hS hW hl dL_1077 rfl rfl cm_X11_report wl_227 wl_228 wl_229 rfl (Nat.le_of_ble_eq_true rfl) (Nat.le_of_ble_eq_true rfl) (Nat.le_of_ble_eq_true rfl) (Nat.le_of_ble_eq_true rfl) (Nat.le_of_ble_eq_true rfl) (x_report 0 _ _ _ _) ?_
  rintro _ _ H locs ⟨I1, rfl, rfl, hfar⟩ hW hS
  rw [gmx_eq hfar] at hW
  dsimp only [Option.map, Option.toList, List.cons_append, List.nil_append, gtr]
  refine lv_aload_n hx hb dL_1080 rfl (lv_at hl 2 rfl) ?_
  refine lv_aload_n hx hb dL_1081 rfl (lv_at hl 0 rfl) ?_
  refine lv_iload_n hx hb dL_1082 rfl (lv_at hl 3 rfl) ?_
  refine lv_iconst (v := 1) hx hb dL_1083 (by decide) ?_
  refine lv_iadd hx hb dL_1084 ?_
  refine va_sld hx hb hX hbl hbA hS (by unfold vp_in; decide) dL_1085 ?_
  refine lv_aload_n hx hb dL_1086 rfl (lv_at hl 0 rfl) ?_
  refine lv_iload_n hx hb dL_1087 rfl (lv_at hl 3 rfl) ?_
  refine lv_iconst (v := 2) hx hb dL_1088 (by decide) ?_
  refine lv_iadd hx hb dL_1089 ?_
  refine va_sld hx hb hX hbl hbA hS (by unfold vp_in; decide) dL_1090 ?_
  refine lv_aload_n hx hb dL_1091 rfl (lv_at hl 0 rfl) ?_
  refine lv_iload_n hx hb dL_1092 rfl (lv_at hl 3 rfl) ?_
  refine lv_iconst (v := 3) hx hb dL_1093 (by decide) ?_
  refine lv_iadd hx hb dL_1094 ?_
  refine va_sld hx hb hX hbl hbA hS (by unfold vp_in; decide) dL_1095 ?_
  refine lv_aload_n hx hb dL_1096 rfl (lv_at hl 0 rfl) ?_
  refine lv_iload_n hx hb dL_1097 rfl (lv_at hl 3 rfl) ?_
  refine lv_iconst (v := 4) hx hb dL_1098 (by decide) ?_
  refine lv_iadd hx hb dL_1099 ?_
  refine va_sld hx hb hX hbl hbA hS (by unfold vp_in; decide) dL_1100 ?_
  refine law_call (mc1 := 0) (ms1 := 0) (ci := 12) (x := 67) (mj := mX12_report) (vs := [.int _, .int _, .int _, .int _]) (S := [.int _]) (d := 0 + 1) hx hb hml hown hts hF hS hW hl dL_1101 rfl rfl cm_X12_report wl_231 wl_232 wl_233 rfl (Nat.le_of_ble_eq_true rfl) (Nat.le_of_ble_eq_true rfl) (Nat.le_of_ble_eq_true rfl) (Nat.le_of_ble_eq_true rfl) (Nat.le_of_ble_eq_true rfl) (z_report I1 0 _ _ _ _) ?_
  rintro _ h2 H locs rfl hW hS
  dsimp only [Option.map, Option.toList, List.cons_append, List.nil_append, gtr]
  refine lv_icmp_eq (tgt := 1745) hx hb dL_1104 (by decide) (fun _ => ?_) (fun z => absurd rfl z)
  exact law_end C0 hS hl
set_option maxRecDepth 100000 in
set_option maxHeartbeats 4000000 in
theorem law_29_forget {p : Program} {l : Launch} {e : Env} {s : State} {m : MethodId} {below : List Frame} {meth : Method} {c : Code} {bs : Nat} {xs : Nat → Int32} {D : va_G} {cy : Nat → ClassId} (C0 : lw_At p s m meth c bs 5 xs) (hF : gFx s.heap.size D cy s) {H : Heap} {locs : List Loc} {ls : Array Slot} (hS : va_S (gA s.heap.size) s.heap H locs) (hW : gWd s.heap.size D cy (SH0, RF0, I0) H) (hl : lv_has ls 4 [(0, .ref bs), (1, .ref (s.heap.size + 0)), (2, .ref (s.heap.size + 67)), (3, .int 0)]) : W p l e room_1 s m #[Value.ref bs] below meth c H locs 88 3546 (lw_Z below #[Value.ref bs] s) (F0 m 1109 ls []) := by
  obtain ⟨hx, hb, hr, hml, hown, hts, hX, hbl, hlocks, hgv⟩ := id C0
  have hbA : ¬ gA s.heap.size bs := Nat.not_le.mpr hbl
  refine lv_aload_n hx hb dL_1109 rfl (lv_at hl 1 rfl) ?_
  refine law_call (mc1 := 0) (ms1 := 0) (ci := 11) (x := 0) (mj := mX11_forget) (vs := []) (S := []) (d := 0) hx hb hml hown hts hF hS hW hl dL_1110 rfl rfl cm_X11_forget wl_235 wl_236 wl_237 rfl (Nat.le_of_ble_eq_true rfl) (Nat.le_of_ble_eq_true rfl) (Nat.le_of_ble_eq_true rfl) (Nat.le_of_ble_eq_true rfl) (Nat.le_of_ble_eq_true rfl) (x_forget 0 ) ?_
  rintro _ _ H locs ⟨I1, rfl, rfl, hfar⟩ hW hS
  rw [gmx_eq hfar] at hW
  dsimp only [Option.map, Option.toList, List.cons_append, List.nil_append, gtr]
  refine lv_aload_n hx hb dL_1113 rfl (lv_at hl 2 rfl) ?_
  refine law_call (mc1 := 0) (ms1 := 0) (ci := 12) (x := 67) (mj := mX12_forget) (vs := []) (S := [.int _]) (d := 0 + 1) hx hb hml hown hts hF hS hW hl dL_1114 rfl rfl cm_X12_forget wl_239 wl_240 wl_241 rfl (Nat.le_of_ble_eq_true rfl) (Nat.le_of_ble_eq_true rfl) (Nat.le_of_ble_eq_true rfl) (Nat.le_of_ble_eq_true rfl) (Nat.le_of_ble_eq_true rfl) (z_forget I1 0 ) ?_
  rintro _ h2 H locs rfl hW hS
  dsimp only [Option.map, Option.toList, List.cons_append, List.nil_append, gtr]
  refine lv_icmp_eq (tgt := 1745) hx hb dL_1117 (by decide) (fun _ => ?_) (fun z => absurd rfl z)
  exact law_end C0 hS hl
set_option maxRecDepth 100000 in
set_option maxHeartbeats 4000000 in
theorem law_30_lone {p : Program} {l : Launch} {e : Env} {s : State} {m : MethodId} {below : List Frame} {meth : Method} {c : Code} {bs : Nat} {xs : Nat → Int32} {D : va_G} {cy : Nat → ClassId} (C0 : lw_At p s m meth c bs 5 xs) (hF : gFx s.heap.size D cy s) {H : Heap} {locs : List Loc} {ls : Array Slot} (hS : va_S (gA s.heap.size) s.heap H locs) (hW : gWd s.heap.size D cy (SH0, RF0, I0) H) (hl : lv_has ls 4 [(0, .ref bs), (1, .ref (s.heap.size + 0)), (2, .ref (s.heap.size + 67)), (3, .int 0)]) : W p l e room_1 s m #[Value.ref bs] below meth c H locs 88 3546 (lw_Z below #[Value.ref bs] s) (F0 m 1122 ls []) := by
  obtain ⟨hx, hb, hr, hml, hown, hts, hX, hbl, hlocks, hgv⟩ := id C0
  have hbA : ¬ gA s.heap.size bs := Nat.not_le.mpr hbl
  refine lv_aload_n hx hb dL_1122 rfl (lv_at hl 1 rfl) ?_
  refine lv_aload_n hx hb dL_1123 rfl (lv_at hl 0 rfl) ?_
  refine lv_iload_n hx hb dL_1124 rfl (lv_at hl 3 rfl) ?_
  refine lv_iconst (v := 1) hx hb dL_1125 (by decide) ?_
  refine lv_iadd hx hb dL_1126 ?_
  refine va_sld hx hb hX hbl hbA hS (by unfold vp_in; decide) dL_1127 ?_
  refine law_call (mc1 := 0) (ms1 := 0) (ci := 11) (x := 0) (mj := mX11_lone) (vs := [.int _]) (S := []) (d := 0 + 4) hx hb hml hown hts hF hS hW hl dL_1128 rfl rfl cm_X11_lone wl_243 wl_244 wl_245 rfl (Nat.le_of_ble_eq_true rfl) (Nat.le_of_ble_eq_true rfl) (Nat.le_of_ble_eq_true rfl) (Nat.le_of_ble_eq_true rfl) (Nat.le_of_ble_eq_true rfl) (x_lone 0 _) ?_
  rintro _ _ H locs ⟨I1, rfl, rfl, hfar⟩ hW hS
  rw [gmx_eq hfar] at hW
  dsimp only [Option.map, Option.toList, List.cons_append, List.nil_append, gtr]
  refine lv_aload_n hx hb dL_1131 rfl (lv_at hl 2 rfl) ?_
  refine lv_aload_n hx hb dL_1132 rfl (lv_at hl 0 rfl) ?_
  refine lv_iload_n hx hb dL_1133 rfl (lv_at hl 3 rfl) ?_
  refine lv_iconst (v := 1) hx hb dL_1134 (by decide) ?_
  refine lv_iadd hx hb dL_1135 ?_
  refine va_sld hx hb hX hbl hbA hS (by unfold vp_in; decide) dL_1136 ?_
  refine law_call (mc1 := 0) (ms1 := 0) (ci := 12) (x := 67) (mj := mX12_lone) (vs := [.int _]) (S := [.int _]) (d := 0 + 3) hx hb hml hown hts hF hS hW hl dL_1137 rfl rfl cm_X12_lone wl_247 wl_248 wl_249 rfl (Nat.le_of_ble_eq_true rfl) (Nat.le_of_ble_eq_true rfl) (Nat.le_of_ble_eq_true rfl) (Nat.le_of_ble_eq_true rfl) (Nat.le_of_ble_eq_true rfl) (z_lone I1 0 _) ?_
  rintro _ h2 H locs rfl hW hS
  dsimp only [Option.map, Option.toList, List.cons_append, List.nil_append, gtr]
  refine lv_icmp_eq (tgt := 1745) hx hb dL_1140 (by decide) (fun _ => ?_) (fun z => absurd rfl z)
  exact law_end C0 hS hl
set_option maxRecDepth 100000 in
set_option maxHeartbeats 4000000 in
theorem law_31_liar {p : Program} {l : Launch} {e : Env} {s : State} {m : MethodId} {below : List Frame} {meth : Method} {c : Code} {bs : Nat} {xs : Nat → Int32} {D : va_G} {cy : Nat → ClassId} (C0 : lw_At p s m meth c bs 5 xs) (hF : gFx s.heap.size D cy s) {H : Heap} {locs : List Loc} {ls : Array Slot} (hS : va_S (gA s.heap.size) s.heap H locs) (hW : gWd s.heap.size D cy (SH0, RF0, I0) H) (hl : lv_has ls 4 [(0, .ref bs), (1, .ref (s.heap.size + 0)), (2, .ref (s.heap.size + 67)), (3, .int 0)]) : W p l e room_1 s m #[Value.ref bs] below meth c H locs 88 3546 (lw_Z below #[Value.ref bs] s) (F0 m 1145 ls []) := by
  obtain ⟨hx, hb, hr, hml, hown, hts, hX, hbl, hlocks, hgv⟩ := id C0
  have hbA : ¬ gA s.heap.size bs := Nat.not_le.mpr hbl
  refine lv_aload_n hx hb dL_1145 rfl (lv_at hl 1 rfl) ?_
  refine law_call (mc1 := 0) (ms1 := 0) (ci := 11) (x := 0) (mj := mX11_liar) (vs := []) (S := []) (d := 0 + 4) hx hb hml hown hts hF hS hW hl dL_1146 rfl rfl cm_X11_liar wl_251 wl_252 wl_253 rfl (Nat.le_of_ble_eq_true rfl) (Nat.le_of_ble_eq_true rfl) (Nat.le_of_ble_eq_true rfl) (Nat.le_of_ble_eq_true rfl) (Nat.le_of_ble_eq_true rfl) (x_liar 0 ) ?_
  rintro _ _ H locs ⟨I1, rfl, rfl, hfar⟩ hW hS
  rw [gmx_eq hfar] at hW
  dsimp only [Option.map, Option.toList, List.cons_append, List.nil_append, gtr]
  refine lv_aload_n hx hb dL_1149 rfl (lv_at hl 2 rfl) ?_
  refine law_call (mc1 := 0) (ms1 := 0) (ci := 12) (x := 67) (mj := mX12_liar) (vs := []) (S := [.int _]) (d := 0 + 3) hx hb hml hown hts hF hS hW hl dL_1150 rfl rfl cm_X12_liar wl_255 wl_256 wl_257 rfl (Nat.le_of_ble_eq_true rfl) (Nat.le_of_ble_eq_true rfl) (Nat.le_of_ble_eq_true rfl) (Nat.le_of_ble_eq_true rfl) (Nat.le_of_ble_eq_true rfl) (z_liar I1 0 ) ?_
  rintro _ h2 H locs rfl hW hS
  dsimp only [Option.map, Option.toList, List.cons_append, List.nil_append, gtr]
  refine lv_icmp_eq (tgt := 1745) hx hb dL_1153 (by decide) (fun _ => ?_) (fun z => absurd rfl z)
  exact law_end C0 hS hl
set_option maxRecDepth 100000 in
set_option maxHeartbeats 4000000 in
theorem law_32_seed {p : Program} {l : Launch} {e : Env} {s : State} {m : MethodId} {below : List Frame} {meth : Method} {c : Code} {bs : Nat} {xs : Nat → Int32} {D : va_G} {cy : Nat → ClassId} (C0 : lw_At p s m meth c bs 5 xs) (hF : gFx s.heap.size D cy s) {H : Heap} {locs : List Loc} {ls : Array Slot} (hS : va_S (gA s.heap.size) s.heap H locs) (hW : gWd s.heap.size D cy (SH0, RF0, I0) H) (hl : lv_has ls 4 [(0, .ref bs), (1, .ref (s.heap.size + 0)), (2, .ref (s.heap.size + 67)), (3, .int 0)]) : W p l e room_1 s m #[Value.ref bs] below meth c H locs 88 3546 (lw_Z below #[Value.ref bs] s) (F0 m 1158 ls []) := by
  obtain ⟨hx, hb, hr, hml, hown, hts, hX, hbl, hlocks, hgv⟩ := id C0
  have hbA : ¬ gA s.heap.size bs := Nat.not_le.mpr hbl
  refine lv_aload_n hx hb dL_1158 rfl (lv_at hl 1 rfl) ?_
  refine lv_aload_n hx hb dL_1159 rfl (lv_at hl 0 rfl) ?_
  refine lv_iload_n hx hb dL_1160 rfl (lv_at hl 3 rfl) ?_
  refine lv_iconst (v := 1) hx hb dL_1161 (by decide) ?_
  refine lv_iadd hx hb dL_1162 ?_
  refine va_sld hx hb hX hbl hbA hS (by unfold vp_in; decide) dL_1163 ?_
  refine law_call (mc1 := 0) (ms1 := 0) (ci := 11) (x := 0) (mj := mX11_seed) (vs := [.int _]) (S := []) (d := 0) hx hb hml hown hts hF hS hW hl dL_1164 rfl rfl cm_X11_seed wl_259 wl_260 wl_261 rfl (Nat.le_of_ble_eq_true rfl) (Nat.le_of_ble_eq_true rfl) (Nat.le_of_ble_eq_true rfl) (Nat.le_of_ble_eq_true rfl) (Nat.le_of_ble_eq_true rfl) (x_seed 0 _) ?_
  rintro _ _ H locs ⟨I1, rfl, rfl, hfar⟩ hW hS
  rw [gmx_eq hfar] at hW
  dsimp only [Option.map, Option.toList, List.cons_append, List.nil_append, gtr]
  refine lv_aload_n hx hb dL_1167 rfl (lv_at hl 2 rfl) ?_
  refine lv_aload_n hx hb dL_1168 rfl (lv_at hl 0 rfl) ?_
  refine lv_iload_n hx hb dL_1169 rfl (lv_at hl 3 rfl) ?_
  refine lv_iconst (v := 1) hx hb dL_1170 (by decide) ?_
  refine lv_iadd hx hb dL_1171 ?_
  refine va_sld hx hb hX hbl hbA hS (by unfold vp_in; decide) dL_1172 ?_
  refine law_call (mc1 := 0) (ms1 := 0) (ci := 12) (x := 67) (mj := mX12_seed) (vs := [.int _]) (S := [.int _]) (d := 0 + 1) hx hb hml hown hts hF hS hW hl dL_1173 rfl rfl cm_X12_seed wl_263 wl_264 wl_265 rfl (Nat.le_of_ble_eq_true rfl) (Nat.le_of_ble_eq_true rfl) (Nat.le_of_ble_eq_true rfl) (Nat.le_of_ble_eq_true rfl) (Nat.le_of_ble_eq_true rfl) (z_seed I1 0 _) ?_
  rintro _ h2 H locs rfl hW hS
  dsimp only [Option.map, Option.toList, List.cons_append, List.nil_append, gtr]
  refine lv_icmp_eq (tgt := 1745) hx hb dL_1176 (by decide) (fun _ => ?_) (fun z => absurd rfl z)
  exact law_end C0 hS hl
set_option maxRecDepth 100000 in
set_option maxHeartbeats 4000000 in
theorem law_33_lot {p : Program} {l : Launch} {e : Env} {s : State} {m : MethodId} {below : List Frame} {meth : Method} {c : Code} {bs : Nat} {xs : Nat → Int32} {D : va_G} {cy : Nat → ClassId} (C0 : lw_At p s m meth c bs 5 xs) (hF : gFx s.heap.size D cy s) {H : Heap} {locs : List Loc} {ls : Array Slot} (hS : va_S (gA s.heap.size) s.heap H locs) (hW : gWd s.heap.size D cy (SH0, RF0, I0) H) (hl : lv_has ls 4 [(0, .ref bs), (1, .ref (s.heap.size + 0)), (2, .ref (s.heap.size + 67)), (3, .int 0)]) : W p l e room_1 s m #[Value.ref bs] below meth c H locs 88 3546 (lw_Z below #[Value.ref bs] s) (F0 m 1181 ls []) := by
  obtain ⟨hx, hb, hr, hml, hown, hts, hX, hbl, hlocks, hgv⟩ := id C0
  have hbA : ¬ gA s.heap.size bs := Nat.not_le.mpr hbl
  refine lv_aload_n hx hb dL_1181 rfl (lv_at hl 1 rfl) ?_
  refine law_call (mc1 := 0) (ms1 := 0) (ci := 11) (x := 0) (mj := mX11_lot) (vs := []) (S := []) (d := 0 + 3) hx hb hml hown hts hF hS hW hl dL_1182 rfl rfl cm_X11_lot wl_267 wl_268 wl_269 rfl (Nat.le_of_ble_eq_true rfl) (Nat.le_of_ble_eq_true rfl) (Nat.le_of_ble_eq_true rfl) (Nat.le_of_ble_eq_true rfl) (Nat.le_of_ble_eq_true rfl) (x_lot 0 ) ?_
  rintro _ _ H locs ⟨I1, rfl, rfl, hfar⟩ hW hS
  rw [gmx_eq hfar] at hW
  dsimp only [Option.map, Option.toList, List.cons_append, List.nil_append, gtr]
  refine lv_aload_n hx hb dL_1185 rfl (lv_at hl 2 rfl) ?_
  refine law_call (mc1 := 0) (ms1 := 0) (ci := 12) (x := 67) (mj := mX12_lot) (vs := []) (S := [.int _]) (d := 0 + 2) hx hb hml hown hts hF hS hW hl dL_1186 rfl rfl cm_X12_lot wl_271 wl_272 wl_273 rfl (Nat.le_of_ble_eq_true rfl) (Nat.le_of_ble_eq_true rfl) (Nat.le_of_ble_eq_true rfl) (Nat.le_of_ble_eq_true rfl) (Nat.le_of_ble_eq_true rfl) (z_lot I1 0 ) ?_
  rintro _ h2 H locs rfl hW hS
  dsimp only [Option.map, Option.toList, List.cons_append, List.nil_append, gtr]
  refine lv_icmp_eq (tgt := 1745) hx hb dL_1189 (by decide) (fun _ => ?_) (fun z => absurd rfl z)
  exact law_end C0 hS hl
set_option maxRecDepth 100000 in
set_option maxHeartbeats 4000000 in
theorem law_34_times {p : Program} {l : Launch} {e : Env} {s : State} {m : MethodId} {below : List Frame} {meth : Method} {c : Code} {bs : Nat} {xs : Nat → Int32} {D : va_G} {cy : Nat → ClassId} (C0 : lw_At p s m meth c bs 5 xs) (hF : gFx s.heap.size D cy s) {H : Heap} {locs : List Loc} {ls : Array Slot} (hS : va_S (gA s.heap.size) s.heap H locs) (hW : gWd s.heap.size D cy (SH0, RF0, I0) H) (hl : lv_has ls 4 [(0, .ref bs), (1, .ref (s.heap.size + 0)), (2, .ref (s.heap.size + 67)), (3, .int 0)]) : W p l e room_1 s m #[Value.ref bs] below meth c H locs 88 3546 (lw_Z below #[Value.ref bs] s) (F0 m 1194 ls []) := by
  obtain ⟨hx, hb, hr, hml, hown, hts, hX, hbl, hlocks, hgv⟩ := id C0
  have hbA : ¬ gA s.heap.size bs := Nat.not_le.mpr hbl
  refine lv_aload_n hx hb dL_1194 rfl (lv_at hl 1 rfl) ?_
  refine lv_aload_n hx hb dL_1195 rfl (lv_at hl 0 rfl) ?_
  refine lv_iload_n hx hb dL_1196 rfl (lv_at hl 3 rfl) ?_
  refine lv_iconst (v := 1) hx hb dL_1197 (by decide) ?_
  refine lv_iadd hx hb dL_1198 ?_
  refine va_sld hx hb hX hbl hbA hS (by unfold vp_in; decide) dL_1199 ?_
  refine lv_aload_n hx hb dL_1200 rfl (lv_at hl 0 rfl) ?_
  refine lv_iload_n hx hb dL_1201 rfl (lv_at hl 3 rfl) ?_
  refine lv_iconst (v := 2) hx hb dL_1202 (by decide) ?_
  refine lv_iadd hx hb dL_1203 ?_
  refine va_sld hx hb hX hbl hbA hS (by unfold vp_in; decide) dL_1204 ?_
  refine law_call (mc1 := 0) (ms1 := 0) (ci := 11) (x := 0) (mj := mX11_times) (vs := [.int _, .int _]) (S := []) (d := 0 + 3) hx hb hml hown hts hF hS hW hl dL_1205 rfl rfl cm_X11_times wl_275 wl_276 wl_277 rfl (Nat.le_of_ble_eq_true rfl) (Nat.le_of_ble_eq_true rfl) (Nat.le_of_ble_eq_true rfl) (Nat.le_of_ble_eq_true rfl) (Nat.le_of_ble_eq_true rfl) (x_times 0 _ _) ?_
  rintro _ _ H locs ⟨I1, rfl, rfl, hfar⟩ hW hS
  rw [gmx_eq hfar] at hW
  dsimp only [Option.map, Option.toList, List.cons_append, List.nil_append, gtr]
  refine lv_aload_n hx hb dL_1208 rfl (lv_at hl 2 rfl) ?_
  refine lv_aload_n hx hb dL_1209 rfl (lv_at hl 0 rfl) ?_
  refine lv_iload_n hx hb dL_1210 rfl (lv_at hl 3 rfl) ?_
  refine lv_iconst (v := 1) hx hb dL_1211 (by decide) ?_
  refine lv_iadd hx hb dL_1212 ?_
  refine va_sld hx hb hX hbl hbA hS (by unfold vp_in; decide) dL_1213 ?_
  refine lv_aload_n hx hb dL_1214 rfl (lv_at hl 0 rfl) ?_
  refine lv_iload_n hx hb dL_1215 rfl (lv_at hl 3 rfl) ?_
  refine lv_iconst (v := 2) hx hb dL_1216 (by decide) ?_
  refine lv_iadd hx hb dL_1217 ?_
  refine va_sld hx hb hX hbl hbA hS (by unfold vp_in; decide) dL_1218 ?_
  refine law_call (mc1 := 0) (ms1 := 0) (ci := 12) (x := 67) (mj := mX12_times) (vs := [.int _, .int _]) (S := [.int _]) (d := 0 + 2) hx hb hml hown hts hF hS hW hl dL_1219 rfl rfl cm_X12_times wl_279 wl_280 wl_281 rfl (Nat.le_of_ble_eq_true rfl) (Nat.le_of_ble_eq_true rfl) (Nat.le_of_ble_eq_true rfl) (Nat.le_of_ble_eq_true rfl) (Nat.le_of_ble_eq_true rfl) (z_times I1 0 _ _) ?_
  rintro _ h2 H locs rfl hW hS
  dsimp only [Option.map, Option.toList, List.cons_append, List.nil_append, gtr]
  refine lv_icmp_eq (tgt := 1745) hx hb dL_1222 (by decide) (fun _ => ?_) (fun z => absurd rfl z)
  exact law_end C0 hS hl
set_option maxRecDepth 100000 in
set_option maxHeartbeats 4000000 in
theorem law_35_prove {p : Program} {l : Launch} {e : Env} {s : State} {m : MethodId} {below : List Frame} {meth : Method} {c : Code} {bs : Nat} {xs : Nat → Int32} {D : va_G} {cy : Nat → ClassId} (C0 : lw_At p s m meth c bs 5 xs) (hF : gFx s.heap.size D cy s) {H : Heap} {locs : List Loc} {ls : Array Slot} (hS : va_S (gA s.heap.size) s.heap H locs) (hW : gWd s.heap.size D cy (SH0, RF0, I0) H) (hl : lv_has ls 4 [(0, .ref bs), (1, .ref (s.heap.size + 0)), (2, .ref (s.heap.size + 67)), (3, .int 0)]) : W p l e room_1 s m #[Value.ref bs] below meth c H locs 88 3546 (lw_Z below #[Value.ref bs] s) (F0 m 1227 ls []) := by
  obtain ⟨hx, hb, hr, hml, hown, hts, hX, hbl, hlocks, hgv⟩ := id C0
  have hbA : ¬ gA s.heap.size bs := Nat.not_le.mpr hbl
  refine lv_aload_n hx hb dL_1227 rfl (lv_at hl 1 rfl) ?_
  refine lv_aload_n hx hb dL_1228 rfl (lv_at hl 0 rfl) ?_
  refine lv_iload_n hx hb dL_1229 rfl (lv_at hl 3 rfl) ?_
  refine lv_iconst (v := 1) hx hb dL_1230 (by decide) ?_
  refine lv_iadd hx hb dL_1231 ?_
  refine va_sld hx hb hX hbl hbA hS (by unfold vp_in; decide) dL_1232 ?_
  refine law_call (mc1 := 0) (ms1 := 0) (ci := 11) (x := 0) (mj := mX11_prove) (vs := [.int _]) (S := []) (d := 0 + 6) hx hb hml hown hts hF hS hW hl dL_1233 rfl rfl cm_X11_prove wl_283 wl_284 wl_285 rfl (Nat.le_of_ble_eq_true rfl) (Nat.le_of_ble_eq_true rfl) (Nat.le_of_ble_eq_true rfl) (Nat.le_of_ble_eq_true rfl) (Nat.le_of_ble_eq_true rfl) (x_prove 0 _) ?_
  rintro _ _ H locs ⟨I1, rfl, rfl, hfar⟩ hW hS
  rw [gmx_eq hfar] at hW
  dsimp only [Option.map, Option.toList, List.cons_append, List.nil_append, gtr]
  refine lv_aload_n hx hb dL_1236 rfl (lv_at hl 2 rfl) ?_
  refine lv_aload_n hx hb dL_1237 rfl (lv_at hl 0 rfl) ?_
  refine lv_iload_n hx hb dL_1238 rfl (lv_at hl 3 rfl) ?_
  refine lv_iconst (v := 1) hx hb dL_1239 (by decide) ?_
  refine lv_iadd hx hb dL_1240 ?_
  refine va_sld hx hb hX hbl hbA hS (by unfold vp_in; decide) dL_1241 ?_
  refine law_call (mc1 := 0) (ms1 := 0) (ci := 12) (x := 67) (mj := mX12_prove) (vs := [.int _]) (S := [.int _]) (d := 0 + 8) hx hb hml hown hts hF hS hW hl dL_1242 rfl rfl cm_X12_prove wl_287 wl_288 wl_289 rfl (Nat.le_of_ble_eq_true rfl) (Nat.le_of_ble_eq_true rfl) (Nat.le_of_ble_eq_true rfl) (Nat.le_of_ble_eq_true rfl) (Nat.le_of_ble_eq_true rfl) (z_prove I1 0 _) ?_
  rintro _ h2 H locs rfl hW hS
  dsimp only [Option.map, Option.toList, List.cons_append, List.nil_append, gtr]
  refine lv_icmp_eq (tgt := 1745) hx hb dL_1245 (by decide) (fun _ => ?_) (fun z => absurd rfl z)
  exact law_end C0 hS hl
set_option maxRecDepth 100000 in
set_option maxHeartbeats 4000000 in
theorem law_36_row {p : Program} {l : Launch} {e : Env} {s : State} {m : MethodId} {below : List Frame} {meth : Method} {c : Code} {bs : Nat} {xs : Nat → Int32} {D : va_G} {cy : Nat → ClassId} (C0 : lw_At p s m meth c bs 5 xs) (hF : gFx s.heap.size D cy s) {H : Heap} {locs : List Loc} {ls : Array Slot} (hS : va_S (gA s.heap.size) s.heap H locs) (hW : gWd s.heap.size D cy (SH0, RF0, I0) H) (hl : lv_has ls 4 [(0, .ref bs), (1, .ref (s.heap.size + 0)), (2, .ref (s.heap.size + 67)), (3, .int 0)]) : W p l e room_1 s m #[Value.ref bs] below meth c H locs 88 3546 (lw_Z below #[Value.ref bs] s) (F0 m 1250 ls []) := by
  obtain ⟨hx, hb, hr, hml, hown, hts, hX, hbl, hlocks, hgv⟩ := id C0
  have hbA : ¬ gA s.heap.size bs := Nat.not_le.mpr hbl
  refine lv_aload_n hx hb dL_1250 rfl (lv_at hl 1 rfl) ?_
  refine lv_aload_n hx hb dL_1251 rfl (lv_at hl 0 rfl) ?_
  refine lv_iload_n hx hb dL_1252 rfl (lv_at hl 3 rfl) ?_
  refine lv_iconst (v := 1) hx hb dL_1253 (by decide) ?_
  refine lv_iadd hx hb dL_1254 ?_
  refine va_sld hx hb hX hbl hbA hS (by unfold vp_in; decide) dL_1255 ?_
  refine lv_aload_n hx hb dL_1256 rfl (lv_at hl 0 rfl) ?_
  refine lv_iload_n hx hb dL_1257 rfl (lv_at hl 3 rfl) ?_
  refine lv_iconst (v := 2) hx hb dL_1258 (by decide) ?_
  refine lv_iadd hx hb dL_1259 ?_
  refine va_sld hx hb hX hbl hbA hS (by unfold vp_in; decide) dL_1260 ?_
  refine law_call (mc1 := 0) (ms1 := 0) (ci := 11) (x := 0) (mj := mX11_row) (vs := [.int _, .int _]) (S := []) (d := 0 + 2) hx hb hml hown hts hF hS hW hl dL_1261 rfl rfl cm_X11_row wl_291 wl_292 wl_293 rfl (Nat.le_of_ble_eq_true rfl) (Nat.le_of_ble_eq_true rfl) (Nat.le_of_ble_eq_true rfl) (Nat.le_of_ble_eq_true rfl) (Nat.le_of_ble_eq_true rfl) (x_row 0 _ _) ?_
  rintro _ _ H locs ⟨I1, rfl, rfl, hfar⟩ hW hS
  rw [gmx_eq hfar] at hW
  dsimp only [Option.map, Option.toList, List.cons_append, List.nil_append, gtr]
  refine lv_aload_n hx hb dL_1264 rfl (lv_at hl 2 rfl) ?_
  refine lv_aload_n hx hb dL_1265 rfl (lv_at hl 0 rfl) ?_
  refine lv_iload_n hx hb dL_1266 rfl (lv_at hl 3 rfl) ?_
  refine lv_iconst (v := 1) hx hb dL_1267 (by decide) ?_
  refine lv_iadd hx hb dL_1268 ?_
  refine va_sld hx hb hX hbl hbA hS (by unfold vp_in; decide) dL_1269 ?_
  refine lv_aload_n hx hb dL_1270 rfl (lv_at hl 0 rfl) ?_
  refine lv_iload_n hx hb dL_1271 rfl (lv_at hl 3 rfl) ?_
  refine lv_iconst (v := 2) hx hb dL_1272 (by decide) ?_
  refine lv_iadd hx hb dL_1273 ?_
  refine va_sld hx hb hX hbl hbA hS (by unfold vp_in; decide) dL_1274 ?_
  refine law_call (mc1 := 0) (ms1 := 0) (ci := 12) (x := 67) (mj := mX12_row) (vs := [.int _, .int _]) (S := [.int _]) (d := 0 + 2) hx hb hml hown hts hF hS hW hl dL_1275 rfl rfl cm_X12_row wl_295 wl_296 wl_297 rfl (Nat.le_of_ble_eq_true rfl) (Nat.le_of_ble_eq_true rfl) (Nat.le_of_ble_eq_true rfl) (Nat.le_of_ble_eq_true rfl) (Nat.le_of_ble_eq_true rfl) (z_row I1 0 _ _) ?_
  rintro _ h2 H locs rfl hW hS
  dsimp only [Option.map, Option.toList, List.cons_append, List.nil_append, gtr]
  refine lv_icmp_eq (tgt := 1745) hx hb dL_1278 (by decide) (fun _ => ?_) (fun z => absurd rfl z)
  exact law_end C0 hS hl
set_option maxRecDepth 100000 in
set_option maxHeartbeats 4000000 in
theorem law_37_alterRow {p : Program} {l : Launch} {e : Env} {s : State} {m : MethodId} {below : List Frame} {meth : Method} {c : Code} {bs : Nat} {xs : Nat → Int32} {D : va_G} {cy : Nat → ClassId} (C0 : lw_At p s m meth c bs 5 xs) (hF : gFx s.heap.size D cy s) {H : Heap} {locs : List Loc} {ls : Array Slot} (hS : va_S (gA s.heap.size) s.heap H locs) (hW : gWd s.heap.size D cy (SH0, RF0, I0) H) (hl : lv_has ls 4 [(0, .ref bs), (1, .ref (s.heap.size + 0)), (2, .ref (s.heap.size + 67)), (3, .int 0)]) : W p l e room_1 s m #[Value.ref bs] below meth c H locs 88 3546 (lw_Z below #[Value.ref bs] s) (F0 m 1283 ls []) := by
  obtain ⟨hx, hb, hr, hml, hown, hts, hX, hbl, hlocks, hgv⟩ := id C0
  have hbA : ¬ gA s.heap.size bs := Nat.not_le.mpr hbl
  refine lv_aload_n hx hb dL_1283 rfl (lv_at hl 1 rfl) ?_
  refine lv_aload_n hx hb dL_1284 rfl (lv_at hl 0 rfl) ?_
  refine lv_iload_n hx hb dL_1285 rfl (lv_at hl 3 rfl) ?_
  refine lv_iconst (v := 1) hx hb dL_1286 (by decide) ?_
  refine lv_iadd hx hb dL_1287 ?_
  refine va_sld hx hb hX hbl hbA hS (by unfold vp_in; decide) dL_1288 ?_
  refine lv_aload_n hx hb dL_1289 rfl (lv_at hl 0 rfl) ?_
  refine lv_iload_n hx hb dL_1290 rfl (lv_at hl 3 rfl) ?_
  refine lv_iconst (v := 2) hx hb dL_1291 (by decide) ?_
  refine lv_iadd hx hb dL_1292 ?_
  refine va_sld hx hb hX hbl hbA hS (by unfold vp_in; decide) dL_1293 ?_
  refine lv_aload_n hx hb dL_1294 rfl (lv_at hl 0 rfl) ?_
  refine lv_iload_n hx hb dL_1295 rfl (lv_at hl 3 rfl) ?_
  refine lv_iconst (v := 3) hx hb dL_1296 (by decide) ?_
  refine lv_iadd hx hb dL_1297 ?_
  refine va_sld hx hb hX hbl hbA hS (by unfold vp_in; decide) dL_1298 ?_
  refine law_call (mc1 := 0) (ms1 := 0) (ci := 11) (x := 0) (mj := mX11_alterRow) (vs := [.int _, .int _, .int _]) (S := []) (d := 0 + 2) hx hb hml hown hts hF hS hW hl dL_1299 rfl rfl cm_X11_alterRow wl_299 wl_300 wl_301 rfl (Nat.le_of_ble_eq_true rfl) (Nat.le_of_ble_eq_true rfl) (Nat.le_of_ble_eq_true rfl) (Nat.le_of_ble_eq_true rfl) (Nat.le_of_ble_eq_true rfl) (x_alterRow 0 _ _ _) ?_
  rintro _ _ H locs ⟨I1, rfl, rfl, hfar⟩ hW hS
  rw [gmx_eq hfar] at hW
  dsimp only [Option.map, Option.toList, List.cons_append, List.nil_append, gtr]
  refine lv_aload_n hx hb dL_1302 rfl (lv_at hl 2 rfl) ?_
  refine lv_aload_n hx hb dL_1303 rfl (lv_at hl 0 rfl) ?_
  refine lv_iload_n hx hb dL_1304 rfl (lv_at hl 3 rfl) ?_
  refine lv_iconst (v := 1) hx hb dL_1305 (by decide) ?_
  refine lv_iadd hx hb dL_1306 ?_
  refine va_sld hx hb hX hbl hbA hS (by unfold vp_in; decide) dL_1307 ?_
  refine lv_aload_n hx hb dL_1308 rfl (lv_at hl 0 rfl) ?_
  refine lv_iload_n hx hb dL_1309 rfl (lv_at hl 3 rfl) ?_
  refine lv_iconst (v := 2) hx hb dL_1310 (by decide) ?_
  refine lv_iadd hx hb dL_1311 ?_
  refine va_sld hx hb hX hbl hbA hS (by unfold vp_in; decide) dL_1312 ?_
  refine lv_aload_n hx hb dL_1313 rfl (lv_at hl 0 rfl) ?_
  refine lv_iload_n hx hb dL_1314 rfl (lv_at hl 3 rfl) ?_
  refine lv_iconst (v := 3) hx hb dL_1315 (by decide) ?_
  refine lv_iadd hx hb dL_1316 ?_
  refine va_sld hx hb hX hbl hbA hS (by unfold vp_in; decide) dL_1317 ?_
  refine law_call (mc1 := 0) (ms1 := 0) (ci := 12) (x := 67) (mj := mX12_alterRow) (vs := [.int _, .int _, .int _]) (S := [.int _]) (d := 0 + 2) hx hb hml hown hts hF hS hW hl dL_1318 rfl rfl cm_X12_alterRow wl_303 wl_304 wl_305 rfl (Nat.le_of_ble_eq_true rfl) (Nat.le_of_ble_eq_true rfl) (Nat.le_of_ble_eq_true rfl) (Nat.le_of_ble_eq_true rfl) (Nat.le_of_ble_eq_true rfl) (z_alterRow I1 0 _ _ _) ?_
  rintro _ h2 H locs rfl hW hS
  dsimp only [Option.map, Option.toList, List.cons_append, List.nil_append, gtr]
  refine lv_icmp_eq (tgt := 1745) hx hb dL_1321 (by decide) (fun _ => ?_) (fun z => absurd rfl z)
  exact law_end C0 hS hl
set_option maxRecDepth 100000 in
set_option maxHeartbeats 4000000 in
theorem law_38_judge {p : Program} {l : Launch} {e : Env} {s : State} {m : MethodId} {below : List Frame} {meth : Method} {c : Code} {bs : Nat} {xs : Nat → Int32} {D : va_G} {cy : Nat → ClassId} (C0 : lw_At p s m meth c bs 5 xs) (hF : gFx s.heap.size D cy s) {H : Heap} {locs : List Loc} {ls : Array Slot} (hS : va_S (gA s.heap.size) s.heap H locs) (hW : gWd s.heap.size D cy (SH0, RF0, I0) H) (hl : lv_has ls 4 [(0, .ref bs), (1, .ref (s.heap.size + 0)), (2, .ref (s.heap.size + 67)), (3, .int 0)]) : W p l e room_1 s m #[Value.ref bs] below meth c H locs 88 3546 (lw_Z below #[Value.ref bs] s) (F0 m 1326 ls []) := by
  obtain ⟨hx, hb, hr, hml, hown, hts, hX, hbl, hlocks, hgv⟩ := id C0
  have hbA : ¬ gA s.heap.size bs := Nat.not_le.mpr hbl
  refine lv_aload_n hx hb dL_1326 rfl (lv_at hl 1 rfl) ?_
  refine law_call (mc1 := 0) (ms1 := 0) (ci := 11) (x := 0) (mj := mX11_judge) (vs := []) (S := []) (d := 0 + 2) hx hb hml hown hts hF hS hW hl dL_1327 rfl rfl cm_X11_judge wl_307 wl_308 wl_309 rfl (Nat.le_of_ble_eq_true rfl) (Nat.le_of_ble_eq_true rfl) (Nat.le_of_ble_eq_true rfl) (Nat.le_of_ble_eq_true rfl) (Nat.le_of_ble_eq_true rfl) (x_judge 0 ) ?_
  rintro _ _ H locs ⟨I1, rfl, rfl, hfar⟩ hW hS
  rw [gmx_eq hfar] at hW
  dsimp only [Option.map, Option.toList, List.cons_append, List.nil_append, gtr]
  refine lv_aload_n hx hb dL_1330 rfl (lv_at hl 2 rfl) ?_
  refine law_call (mc1 := 0) (ms1 := 0) (ci := 12) (x := 67) (mj := mX12_judge) (vs := []) (S := [.int _]) (d := 0 + 1) hx hb hml hown hts hF hS hW hl dL_1331 rfl rfl cm_X12_judge wl_311 wl_312 wl_313 rfl (Nat.le_of_ble_eq_true rfl) (Nat.le_of_ble_eq_true rfl) (Nat.le_of_ble_eq_true rfl) (Nat.le_of_ble_eq_true rfl) (Nat.le_of_ble_eq_true rfl) (z_judge I1 0 ) ?_
  rintro _ h2 H locs rfl hW hS
  dsimp only [Option.map, Option.toList, List.cons_append, List.nil_append, gtr]
  refine lv_icmp_eq (tgt := 1745) hx hb dL_1334 (by decide) (fun _ => ?_) (fun z => absurd rfl z)
  exact law_end C0 hS hl
set_option maxRecDepth 100000 in
set_option maxHeartbeats 4000000 in
theorem law_39_sheet {p : Program} {l : Launch} {e : Env} {s : State} {m : MethodId} {below : List Frame} {meth : Method} {c : Code} {bs : Nat} {xs : Nat → Int32} {D : va_G} {cy : Nat → ClassId} (C0 : lw_At p s m meth c bs 5 xs) (hF : gFx s.heap.size D cy s) {H : Heap} {locs : List Loc} {ls : Array Slot} (hS : va_S (gA s.heap.size) s.heap H locs) (hW : gWd s.heap.size D cy (SH0, RF0, I0) H) (hl : lv_has ls 4 [(0, .ref bs), (1, .ref (s.heap.size + 0)), (2, .ref (s.heap.size + 67)), (3, .int 0)]) : W p l e room_1 s m #[Value.ref bs] below meth c H locs 88 3546 (lw_Z below #[Value.ref bs] s) (F0 m 1339 ls []) := by
  obtain ⟨hx, hb, hr, hml, hown, hts, hX, hbl, hlocks, hgv⟩ := id C0
  have hbA : ¬ gA s.heap.size bs := Nat.not_le.mpr hbl
  refine lv_aload_n hx hb dL_1339 rfl (lv_at hl 1 rfl) ?_
  refine lv_aload_n hx hb dL_1340 rfl (lv_at hl 0 rfl) ?_
  refine lv_iload_n hx hb dL_1341 rfl (lv_at hl 3 rfl) ?_
  refine lv_iconst (v := 1) hx hb dL_1342 (by decide) ?_
  refine lv_iadd hx hb dL_1343 ?_
  refine va_sld hx hb hX hbl hbA hS (by unfold vp_in; decide) dL_1344 ?_
  refine lv_aload_n hx hb dL_1345 rfl (lv_at hl 0 rfl) ?_
  refine lv_iload_n hx hb dL_1346 rfl (lv_at hl 3 rfl) ?_
  refine lv_iconst (v := 2) hx hb dL_1347 (by decide) ?_
  refine lv_iadd hx hb dL_1348 ?_
  refine va_sld hx hb hX hbl hbA hS (by unfold vp_in; decide) dL_1349 ?_
  refine lv_aload_n hx hb dL_1350 rfl (lv_at hl 0 rfl) ?_
  refine lv_iload_n hx hb dL_1351 rfl (lv_at hl 3 rfl) ?_
  refine lv_iconst (v := 3) hx hb dL_1352 (by decide) ?_
  refine lv_iadd hx hb dL_1353 ?_
  refine va_sld hx hb hX hbl hbA hS (by unfold vp_in; decide) dL_1354 ?_
  refine law_call (mc1 := 0) (ms1 := 0) (ci := 11) (x := 0) (mj := mX11_sheet) (vs := [.int _, .int _, .int _]) (S := []) (d := 0 + 2) hx hb hml hown hts hF hS hW hl dL_1355 rfl rfl cm_X11_sheet wl_315 wl_316 wl_317 rfl (Nat.le_of_ble_eq_true rfl) (Nat.le_of_ble_eq_true rfl) (Nat.le_of_ble_eq_true rfl) (Nat.le_of_ble_eq_true rfl) (Nat.le_of_ble_eq_true rfl) (x_sheet 0 _ _ _) ?_
  rintro _ _ H locs ⟨I1, rfl, rfl, hfar⟩ hW hS
  rw [gmx_eq hfar] at hW
  dsimp only [Option.map, Option.toList, List.cons_append, List.nil_append, gtr]
  refine lv_aload_n hx hb dL_1358 rfl (lv_at hl 2 rfl) ?_
  refine lv_aload_n hx hb dL_1359 rfl (lv_at hl 0 rfl) ?_
  refine lv_iload_n hx hb dL_1360 rfl (lv_at hl 3 rfl) ?_
  refine lv_iconst (v := 1) hx hb dL_1361 (by decide) ?_
  refine lv_iadd hx hb dL_1362 ?_
  refine va_sld hx hb hX hbl hbA hS (by unfold vp_in; decide) dL_1363 ?_
  refine lv_aload_n hx hb dL_1364 rfl (lv_at hl 0 rfl) ?_
  refine lv_iload_n hx hb dL_1365 rfl (lv_at hl 3 rfl) ?_
  refine lv_iconst (v := 2) hx hb dL_1366 (by decide) ?_
  refine lv_iadd hx hb dL_1367 ?_
  refine va_sld hx hb hX hbl hbA hS (by unfold vp_in; decide) dL_1368 ?_
  refine lv_aload_n hx hb dL_1369 rfl (lv_at hl 0 rfl) ?_
  refine lv_iload_n hx hb dL_1370 rfl (lv_at hl 3 rfl) ?_
  refine lv_iconst (v := 3) hx hb dL_1371 (by decide) ?_
  refine lv_iadd hx hb dL_1372 ?_
  refine va_sld hx hb hX hbl hbA hS (by unfold vp_in; decide) dL_1373 ?_
  refine law_call (mc1 := 0) (ms1 := 0) (ci := 12) (x := 67) (mj := mX12_sheet) (vs := [.int _, .int _, .int _]) (S := [.int _]) (d := 0 + 2) hx hb hml hown hts hF hS hW hl dL_1374 rfl rfl cm_X12_sheet wl_319 wl_320 wl_321 rfl (Nat.le_of_ble_eq_true rfl) (Nat.le_of_ble_eq_true rfl) (Nat.le_of_ble_eq_true rfl) (Nat.le_of_ble_eq_true rfl) (Nat.le_of_ble_eq_true rfl) (z_sheet I1 0 _ _ _) ?_
  rintro _ h2 H locs rfl hW hS
  dsimp only [Option.map, Option.toList, List.cons_append, List.nil_append, gtr]
  refine lv_icmp_eq (tgt := 1745) hx hb dL_1377 (by decide) (fun _ => ?_) (fun z => absurd rfl z)
  exact law_end C0 hS hl
set_option maxRecDepth 100000 in
set_option maxHeartbeats 4000000 in
theorem law_40_write {p : Program} {l : Launch} {e : Env} {s : State} {m : MethodId} {below : List Frame} {meth : Method} {c : Code} {bs : Nat} {xs : Nat → Int32} {D : va_G} {cy : Nat → ClassId} (C0 : lw_At p s m meth c bs 5 xs) (hF : gFx s.heap.size D cy s) {H : Heap} {locs : List Loc} {ls : Array Slot} (hS : va_S (gA s.heap.size) s.heap H locs) (hW : gWd s.heap.size D cy (SH0, RF0, I0) H) (hl : lv_has ls 4 [(0, .ref bs), (1, .ref (s.heap.size + 0)), (2, .ref (s.heap.size + 67)), (3, .int 0)]) : W p l e room_1 s m #[Value.ref bs] below meth c H locs 88 3546 (lw_Z below #[Value.ref bs] s) (F0 m 1382 ls []) := by
  obtain ⟨hx, hb, hr, hml, hown, hts, hX, hbl, hlocks, hgv⟩ := id C0
  have hbA : ¬ gA s.heap.size bs := Nat.not_le.mpr hbl
  refine lv_aload_n hx hb dL_1382 rfl (lv_at hl 1 rfl) ?_
  refine lv_aload_n hx hb dL_1383 rfl (lv_at hl 0 rfl) ?_
  refine lv_iload_n hx hb dL_1384 rfl (lv_at hl 3 rfl) ?_
  refine lv_iconst (v := 1) hx hb dL_1385 (by decide) ?_
  refine lv_iadd hx hb dL_1386 ?_
  refine va_sld hx hb hX hbl hbA hS (by unfold vp_in; decide) dL_1387 ?_
  refine lv_aload_n hx hb dL_1388 rfl (lv_at hl 0 rfl) ?_
  refine lv_iload_n hx hb dL_1389 rfl (lv_at hl 3 rfl) ?_
  refine lv_iconst (v := 2) hx hb dL_1390 (by decide) ?_
  refine lv_iadd hx hb dL_1391 ?_
  refine va_sld hx hb hX hbl hbA hS (by unfold vp_in; decide) dL_1392 ?_
  refine lv_aload_n hx hb dL_1393 rfl (lv_at hl 0 rfl) ?_
  refine lv_iload_n hx hb dL_1394 rfl (lv_at hl 3 rfl) ?_
  refine lv_iconst (v := 3) hx hb dL_1395 (by decide) ?_
  refine lv_iadd hx hb dL_1396 ?_
  refine va_sld hx hb hX hbl hbA hS (by unfold vp_in; decide) dL_1397 ?_
  refine law_call (mc1 := 0) (ms1 := 0) (ci := 11) (x := 0) (mj := mX11_write) (vs := [.int _, .int _, .int _]) (S := []) (d := 0 + 2) hx hb hml hown hts hF hS hW hl dL_1398 rfl rfl cm_X11_write wl_323 wl_324 wl_325 rfl (Nat.le_of_ble_eq_true rfl) (Nat.le_of_ble_eq_true rfl) (Nat.le_of_ble_eq_true rfl) (Nat.le_of_ble_eq_true rfl) (Nat.le_of_ble_eq_true rfl) (x_write 0 _ _ _) ?_
  rintro _ _ H locs ⟨I1, rfl, rfl, hfar⟩ hW hS
  rw [gmx_eq hfar] at hW
  dsimp only [Option.map, Option.toList, List.cons_append, List.nil_append, gtr]
  refine lv_aload_n hx hb dL_1401 rfl (lv_at hl 2 rfl) ?_
  refine lv_aload_n hx hb dL_1402 rfl (lv_at hl 0 rfl) ?_
  refine lv_iload_n hx hb dL_1403 rfl (lv_at hl 3 rfl) ?_
  refine lv_iconst (v := 1) hx hb dL_1404 (by decide) ?_
  refine lv_iadd hx hb dL_1405 ?_
  refine va_sld hx hb hX hbl hbA hS (by unfold vp_in; decide) dL_1406 ?_
  refine lv_aload_n hx hb dL_1407 rfl (lv_at hl 0 rfl) ?_
  refine lv_iload_n hx hb dL_1408 rfl (lv_at hl 3 rfl) ?_
  refine lv_iconst (v := 2) hx hb dL_1409 (by decide) ?_
  refine lv_iadd hx hb dL_1410 ?_
  refine va_sld hx hb hX hbl hbA hS (by unfold vp_in; decide) dL_1411 ?_
  refine lv_aload_n hx hb dL_1412 rfl (lv_at hl 0 rfl) ?_
  refine lv_iload_n hx hb dL_1413 rfl (lv_at hl 3 rfl) ?_
  refine lv_iconst (v := 3) hx hb dL_1414 (by decide) ?_
  refine lv_iadd hx hb dL_1415 ?_
  refine va_sld hx hb hX hbl hbA hS (by unfold vp_in; decide) dL_1416 ?_
  refine law_call (mc1 := 0) (ms1 := 0) (ci := 12) (x := 67) (mj := mX12_write) (vs := [.int _, .int _, .int _]) (S := [.int _]) (d := 0 + 2) hx hb hml hown hts hF hS hW hl dL_1417 rfl rfl cm_X12_write wl_327 wl_328 wl_329 rfl (Nat.le_of_ble_eq_true rfl) (Nat.le_of_ble_eq_true rfl) (Nat.le_of_ble_eq_true rfl) (Nat.le_of_ble_eq_true rfl) (Nat.le_of_ble_eq_true rfl) (z_write I1 0 _ _ _) ?_
  rintro _ h2 H locs rfl hW hS
  dsimp only [Option.map, Option.toList, List.cons_append, List.nil_append, gtr]
  refine lv_icmp_eq (tgt := 1745) hx hb dL_1420 (by decide) (fun _ => ?_) (fun z => absurd rfl z)
  exact law_end C0 hS hl
set_option maxRecDepth 100000 in
set_option maxHeartbeats 4000000 in
theorem law_41_item {p : Program} {l : Launch} {e : Env} {s : State} {m : MethodId} {below : List Frame} {meth : Method} {c : Code} {bs : Nat} {xs : Nat → Int32} {D : va_G} {cy : Nat → ClassId} (C0 : lw_At p s m meth c bs 5 xs) (hF : gFx s.heap.size D cy s) {H : Heap} {locs : List Loc} {ls : Array Slot} (hS : va_S (gA s.heap.size) s.heap H locs) (hW : gWd s.heap.size D cy (SH0, RF0, I0) H) (hl : lv_has ls 4 [(0, .ref bs), (1, .ref (s.heap.size + 0)), (2, .ref (s.heap.size + 67)), (3, .int 0)]) : W p l e room_1 s m #[Value.ref bs] below meth c H locs 88 3546 (lw_Z below #[Value.ref bs] s) (F0 m 1425 ls []) := by
  obtain ⟨hx, hb, hr, hml, hown, hts, hX, hbl, hlocks, hgv⟩ := id C0
  have hbA : ¬ gA s.heap.size bs := Nat.not_le.mpr hbl
  refine lv_aload_n hx hb dL_1425 rfl (lv_at hl 1 rfl) ?_
  refine lv_aload_n hx hb dL_1426 rfl (lv_at hl 0 rfl) ?_
  refine lv_iload_n hx hb dL_1427 rfl (lv_at hl 3 rfl) ?_
  refine lv_iconst (v := 1) hx hb dL_1428 (by decide) ?_
  refine lv_iadd hx hb dL_1429 ?_
  refine va_sld hx hb hX hbl hbA hS (by unfold vp_in; decide) dL_1430 ?_
  refine lv_aload_n hx hb dL_1431 rfl (lv_at hl 0 rfl) ?_
  refine lv_iload_n hx hb dL_1432 rfl (lv_at hl 3 rfl) ?_
  refine lv_iconst (v := 2) hx hb dL_1433 (by decide) ?_
  refine lv_iadd hx hb dL_1434 ?_
  refine va_sld hx hb hX hbl hbA hS (by unfold vp_in; decide) dL_1435 ?_
  refine lv_aload_n hx hb dL_1436 rfl (lv_at hl 0 rfl) ?_
  refine lv_iload_n hx hb dL_1437 rfl (lv_at hl 3 rfl) ?_
  refine lv_iconst (v := 3) hx hb dL_1438 (by decide) ?_
  refine lv_iadd hx hb dL_1439 ?_
  refine va_sld hx hb hX hbl hbA hS (by unfold vp_in; decide) dL_1440 ?_
  refine law_call (mc1 := 0) (ms1 := 0) (ci := 11) (x := 0) (mj := mX11_item) (vs := [.int _, .int _, .int _]) (S := []) (d := 0 + 2) hx hb hml hown hts hF hS hW hl dL_1441 rfl rfl cm_X11_item wl_331 wl_332 wl_333 rfl (Nat.le_of_ble_eq_true rfl) (Nat.le_of_ble_eq_true rfl) (Nat.le_of_ble_eq_true rfl) (Nat.le_of_ble_eq_true rfl) (Nat.le_of_ble_eq_true rfl) (x_item 0 _ _ _) ?_
  rintro _ _ H locs ⟨I1, rfl, rfl, hfar⟩ hW hS
  rw [gmx_eq hfar] at hW
  dsimp only [Option.map, Option.toList, List.cons_append, List.nil_append, gtr]
  refine lv_aload_n hx hb dL_1444 rfl (lv_at hl 2 rfl) ?_
  refine lv_aload_n hx hb dL_1445 rfl (lv_at hl 0 rfl) ?_
  refine lv_iload_n hx hb dL_1446 rfl (lv_at hl 3 rfl) ?_
  refine lv_iconst (v := 1) hx hb dL_1447 (by decide) ?_
  refine lv_iadd hx hb dL_1448 ?_
  refine va_sld hx hb hX hbl hbA hS (by unfold vp_in; decide) dL_1449 ?_
  refine lv_aload_n hx hb dL_1450 rfl (lv_at hl 0 rfl) ?_
  refine lv_iload_n hx hb dL_1451 rfl (lv_at hl 3 rfl) ?_
  refine lv_iconst (v := 2) hx hb dL_1452 (by decide) ?_
  refine lv_iadd hx hb dL_1453 ?_
  refine va_sld hx hb hX hbl hbA hS (by unfold vp_in; decide) dL_1454 ?_
  refine lv_aload_n hx hb dL_1455 rfl (lv_at hl 0 rfl) ?_
  refine lv_iload_n hx hb dL_1456 rfl (lv_at hl 3 rfl) ?_
  refine lv_iconst (v := 3) hx hb dL_1457 (by decide) ?_
  refine lv_iadd hx hb dL_1458 ?_
  refine va_sld hx hb hX hbl hbA hS (by unfold vp_in; decide) dL_1459 ?_
  refine law_call (mc1 := 0) (ms1 := 0) (ci := 12) (x := 67) (mj := mX12_item) (vs := [.int _, .int _, .int _]) (S := [.int _]) (d := 0 + 2) hx hb hml hown hts hF hS hW hl dL_1460 rfl rfl cm_X12_item wl_335 wl_336 wl_337 rfl (Nat.le_of_ble_eq_true rfl) (Nat.le_of_ble_eq_true rfl) (Nat.le_of_ble_eq_true rfl) (Nat.le_of_ble_eq_true rfl) (Nat.le_of_ble_eq_true rfl) (z_item I1 0 _ _ _) ?_
  rintro _ h2 H locs rfl hW hS
  dsimp only [Option.map, Option.toList, List.cons_append, List.nil_append, gtr]
  refine lv_icmp_eq (tgt := 1745) hx hb dL_1463 (by decide) (fun _ => ?_) (fun z => absurd rfl z)
  exact law_end C0 hS hl
set_option maxRecDepth 100000 in
set_option maxHeartbeats 4000000 in
theorem law_42_goAll {p : Program} {l : Launch} {e : Env} {s : State} {m : MethodId} {below : List Frame} {meth : Method} {c : Code} {bs : Nat} {xs : Nat → Int32} {D : va_G} {cy : Nat → ClassId} (C0 : lw_At p s m meth c bs 5 xs) (hF : gFx s.heap.size D cy s) {H : Heap} {locs : List Loc} {ls : Array Slot} (hS : va_S (gA s.heap.size) s.heap H locs) (hW : gWd s.heap.size D cy (SH0, RF0, I0) H) (hl : lv_has ls 4 [(0, .ref bs), (1, .ref (s.heap.size + 0)), (2, .ref (s.heap.size + 67)), (3, .int 0)]) : W p l e room_1 s m #[Value.ref bs] below meth c H locs 88 3546 (lw_Z below #[Value.ref bs] s) (F0 m 1468 ls []) := by
  obtain ⟨hx, hb, hr, hml, hown, hts, hX, hbl, hlocks, hgv⟩ := id C0
  have hbA : ¬ gA s.heap.size bs := Nat.not_le.mpr hbl
  refine lv_aload_n hx hb dL_1468 rfl (lv_at hl 1 rfl) ?_
  refine lv_aload_n hx hb dL_1469 rfl (lv_at hl 0 rfl) ?_
  refine lv_iload_n hx hb dL_1470 rfl (lv_at hl 3 rfl) ?_
  refine lv_iconst (v := 1) hx hb dL_1471 (by decide) ?_
  refine lv_iadd hx hb dL_1472 ?_
  refine va_sld hx hb hX hbl hbA hS (by unfold vp_in; decide) dL_1473 ?_
  refine lv_aload_n hx hb dL_1474 rfl (lv_at hl 0 rfl) ?_
  refine lv_iload_n hx hb dL_1475 rfl (lv_at hl 3 rfl) ?_
  refine lv_iconst (v := 2) hx hb dL_1476 (by decide) ?_
  refine lv_iadd hx hb dL_1477 ?_
  refine va_sld hx hb hX hbl hbA hS (by unfold vp_in; decide) dL_1478 ?_
  refine lv_aload_n hx hb dL_1479 rfl (lv_at hl 0 rfl) ?_
  refine lv_iload_n hx hb dL_1480 rfl (lv_at hl 3 rfl) ?_
  refine lv_iconst (v := 3) hx hb dL_1481 (by decide) ?_
  refine lv_iadd hx hb dL_1482 ?_
  refine va_sld hx hb hX hbl hbA hS (by unfold vp_in; decide) dL_1483 ?_
  refine law_call (mc1 := 0) (ms1 := 0) (ci := 11) (x := 0) (mj := mX11_goAll) (vs := [.int _, .int _, .int _]) (S := []) (d := 0 + 2) hx hb hml hown hts hF hS hW hl dL_1484 rfl rfl cm_X11_goAll wl_339 wl_340 wl_341 rfl (Nat.le_of_ble_eq_true rfl) (Nat.le_of_ble_eq_true rfl) (Nat.le_of_ble_eq_true rfl) (Nat.le_of_ble_eq_true rfl) (Nat.le_of_ble_eq_true rfl) (x_goAll 0 _ _ _) ?_
  rintro _ _ H locs ⟨I1, rfl, rfl, hfar⟩ hW hS
  rw [gmx_eq hfar] at hW
  dsimp only [Option.map, Option.toList, List.cons_append, List.nil_append, gtr]
  refine lv_aload_n hx hb dL_1487 rfl (lv_at hl 2 rfl) ?_
  refine lv_aload_n hx hb dL_1488 rfl (lv_at hl 0 rfl) ?_
  refine lv_iload_n hx hb dL_1489 rfl (lv_at hl 3 rfl) ?_
  refine lv_iconst (v := 1) hx hb dL_1490 (by decide) ?_
  refine lv_iadd hx hb dL_1491 ?_
  refine va_sld hx hb hX hbl hbA hS (by unfold vp_in; decide) dL_1492 ?_
  refine lv_aload_n hx hb dL_1493 rfl (lv_at hl 0 rfl) ?_
  refine lv_iload_n hx hb dL_1494 rfl (lv_at hl 3 rfl) ?_
  refine lv_iconst (v := 2) hx hb dL_1495 (by decide) ?_
  refine lv_iadd hx hb dL_1496 ?_
  refine va_sld hx hb hX hbl hbA hS (by unfold vp_in; decide) dL_1497 ?_
  refine lv_aload_n hx hb dL_1498 rfl (lv_at hl 0 rfl) ?_
  refine lv_iload_n hx hb dL_1499 rfl (lv_at hl 3 rfl) ?_
  refine lv_iconst (v := 3) hx hb dL_1500 (by decide) ?_
  refine lv_iadd hx hb dL_1501 ?_
  refine va_sld hx hb hX hbl hbA hS (by unfold vp_in; decide) dL_1502 ?_
  refine law_call (mc1 := 0) (ms1 := 0) (ci := 12) (x := 67) (mj := mX12_goAll) (vs := [.int _, .int _, .int _]) (S := [.int _]) (d := 0 + 2) hx hb hml hown hts hF hS hW hl dL_1503 rfl rfl cm_X12_goAll wl_343 wl_344 wl_345 rfl (Nat.le_of_ble_eq_true rfl) (Nat.le_of_ble_eq_true rfl) (Nat.le_of_ble_eq_true rfl) (Nat.le_of_ble_eq_true rfl) (Nat.le_of_ble_eq_true rfl) (z_goAll I1 0 _ _ _) ?_
  rintro _ h2 H locs rfl hW hS
  dsimp only [Option.map, Option.toList, List.cons_append, List.nil_append, gtr]
  refine lv_icmp_eq (tgt := 1745) hx hb dL_1506 (by decide) (fun _ => ?_) (fun z => absurd rfl z)
  exact law_end C0 hS hl
set_option maxRecDepth 100000 in
set_option maxHeartbeats 4000000 in
theorem law_43_wouldBe {p : Program} {l : Launch} {e : Env} {s : State} {m : MethodId} {below : List Frame} {meth : Method} {c : Code} {bs : Nat} {xs : Nat → Int32} {D : va_G} {cy : Nat → ClassId} (C0 : lw_At p s m meth c bs 5 xs) (hF : gFx s.heap.size D cy s) {H : Heap} {locs : List Loc} {ls : Array Slot} (hS : va_S (gA s.heap.size) s.heap H locs) (hW : gWd s.heap.size D cy (SH0, RF0, I0) H) (hl : lv_has ls 4 [(0, .ref bs), (1, .ref (s.heap.size + 0)), (2, .ref (s.heap.size + 67)), (3, .int 0)]) : W p l e room_1 s m #[Value.ref bs] below meth c H locs 88 3546 (lw_Z below #[Value.ref bs] s) (F0 m 1511 ls []) := by
  obtain ⟨hx, hb, hr, hml, hown, hts, hX, hbl, hlocks, hgv⟩ := id C0
  have hbA : ¬ gA s.heap.size bs := Nat.not_le.mpr hbl
  refine lv_aload_n hx hb dL_1511 rfl (lv_at hl 1 rfl) ?_
  refine lv_aload_n hx hb dL_1512 rfl (lv_at hl 0 rfl) ?_
  refine lv_iload_n hx hb dL_1513 rfl (lv_at hl 3 rfl) ?_
  refine lv_iconst (v := 1) hx hb dL_1514 (by decide) ?_
  refine lv_iadd hx hb dL_1515 ?_
  refine va_sld hx hb hX hbl hbA hS (by unfold vp_in; decide) dL_1516 ?_
  refine lv_aload_n hx hb dL_1517 rfl (lv_at hl 0 rfl) ?_
  refine lv_iload_n hx hb dL_1518 rfl (lv_at hl 3 rfl) ?_
  refine lv_iconst (v := 2) hx hb dL_1519 (by decide) ?_
  refine lv_iadd hx hb dL_1520 ?_
  refine va_sld hx hb hX hbl hbA hS (by unfold vp_in; decide) dL_1521 ?_
  refine lv_aload_n hx hb dL_1522 rfl (lv_at hl 0 rfl) ?_
  refine lv_iload_n hx hb dL_1523 rfl (lv_at hl 3 rfl) ?_
  refine lv_iconst (v := 3) hx hb dL_1524 (by decide) ?_
  refine lv_iadd hx hb dL_1525 ?_
  refine va_sld hx hb hX hbl hbA hS (by unfold vp_in; decide) dL_1526 ?_
  refine law_call (mc1 := 0) (ms1 := 0) (ci := 11) (x := 0) (mj := mX11_wouldBe) (vs := [.int _, .int _, .int _]) (S := []) (d := 0 + 2) hx hb hml hown hts hF hS hW hl dL_1527 rfl rfl cm_X11_wouldBe wl_347 wl_348 wl_349 rfl (Nat.le_of_ble_eq_true rfl) (Nat.le_of_ble_eq_true rfl) (Nat.le_of_ble_eq_true rfl) (Nat.le_of_ble_eq_true rfl) (Nat.le_of_ble_eq_true rfl) (x_wouldBe 0 _ _ _) ?_
  rintro _ _ H locs ⟨I1, rfl, rfl, hfar⟩ hW hS
  rw [gmx_eq hfar] at hW
  dsimp only [Option.map, Option.toList, List.cons_append, List.nil_append, gtr]
  refine lv_aload_n hx hb dL_1530 rfl (lv_at hl 2 rfl) ?_
  refine lv_aload_n hx hb dL_1531 rfl (lv_at hl 0 rfl) ?_
  refine lv_iload_n hx hb dL_1532 rfl (lv_at hl 3 rfl) ?_
  refine lv_iconst (v := 1) hx hb dL_1533 (by decide) ?_
  refine lv_iadd hx hb dL_1534 ?_
  refine va_sld hx hb hX hbl hbA hS (by unfold vp_in; decide) dL_1535 ?_
  refine lv_aload_n hx hb dL_1536 rfl (lv_at hl 0 rfl) ?_
  refine lv_iload_n hx hb dL_1537 rfl (lv_at hl 3 rfl) ?_
  refine lv_iconst (v := 2) hx hb dL_1538 (by decide) ?_
  refine lv_iadd hx hb dL_1539 ?_
  refine va_sld hx hb hX hbl hbA hS (by unfold vp_in; decide) dL_1540 ?_
  refine lv_aload_n hx hb dL_1541 rfl (lv_at hl 0 rfl) ?_
  refine lv_iload_n hx hb dL_1542 rfl (lv_at hl 3 rfl) ?_
  refine lv_iconst (v := 3) hx hb dL_1543 (by decide) ?_
  refine lv_iadd hx hb dL_1544 ?_
  refine va_sld hx hb hX hbl hbA hS (by unfold vp_in; decide) dL_1545 ?_
  refine law_call (mc1 := 0) (ms1 := 0) (ci := 12) (x := 67) (mj := mX12_wouldBe) (vs := [.int _, .int _, .int _]) (S := [.int _]) (d := 0 + 2) hx hb hml hown hts hF hS hW hl dL_1546 rfl rfl cm_X12_wouldBe wl_351 wl_352 wl_353 rfl (Nat.le_of_ble_eq_true rfl) (Nat.le_of_ble_eq_true rfl) (Nat.le_of_ble_eq_true rfl) (Nat.le_of_ble_eq_true rfl) (Nat.le_of_ble_eq_true rfl) (z_wouldBe I1 0 _ _ _) ?_
  rintro _ h2 H locs rfl hW hS
  dsimp only [Option.map, Option.toList, List.cons_append, List.nil_append, gtr]
  refine lv_icmp_eq (tgt := 1745) hx hb dL_1549 (by decide) (fun _ => ?_) (fun z => absurd rfl z)
  exact law_end C0 hS hl
set_option maxRecDepth 100000 in
set_option maxHeartbeats 4000000 in
theorem law_44_shelf {p : Program} {l : Launch} {e : Env} {s : State} {m : MethodId} {below : List Frame} {meth : Method} {c : Code} {bs : Nat} {xs : Nat → Int32} {D : va_G} {cy : Nat → ClassId} (C0 : lw_At p s m meth c bs 5 xs) (hF : gFx s.heap.size D cy s) {H : Heap} {locs : List Loc} {ls : Array Slot} (hS : va_S (gA s.heap.size) s.heap H locs) (hW : gWd s.heap.size D cy (SH0, RF0, I0) H) (hl : lv_has ls 4 [(0, .ref bs), (1, .ref (s.heap.size + 0)), (2, .ref (s.heap.size + 67)), (3, .int 0)]) : W p l e room_1 s m #[Value.ref bs] below meth c H locs 88 3546 (lw_Z below #[Value.ref bs] s) (F0 m 1554 ls []) := by
  obtain ⟨hx, hb, hr, hml, hown, hts, hX, hbl, hlocks, hgv⟩ := id C0
  have hbA : ¬ gA s.heap.size bs := Nat.not_le.mpr hbl
  refine lv_aload_n hx hb dL_1554 rfl (lv_at hl 1 rfl) ?_
  refine lv_aload_n hx hb dL_1555 rfl (lv_at hl 0 rfl) ?_
  refine lv_iload_n hx hb dL_1556 rfl (lv_at hl 3 rfl) ?_
  refine lv_iconst (v := 1) hx hb dL_1557 (by decide) ?_
  refine lv_iadd hx hb dL_1558 ?_
  refine va_sld hx hb hX hbl hbA hS (by unfold vp_in; decide) dL_1559 ?_
  refine lv_aload_n hx hb dL_1560 rfl (lv_at hl 0 rfl) ?_
  refine lv_iload_n hx hb dL_1561 rfl (lv_at hl 3 rfl) ?_
  refine lv_iconst (v := 2) hx hb dL_1562 (by decide) ?_
  refine lv_iadd hx hb dL_1563 ?_
  refine va_sld hx hb hX hbl hbA hS (by unfold vp_in; decide) dL_1564 ?_
  refine lv_aload_n hx hb dL_1565 rfl (lv_at hl 0 rfl) ?_
  refine lv_iload_n hx hb dL_1566 rfl (lv_at hl 3 rfl) ?_
  refine lv_iconst (v := 3) hx hb dL_1567 (by decide) ?_
  refine lv_iadd hx hb dL_1568 ?_
  refine va_sld hx hb hX hbl hbA hS (by unfold vp_in; decide) dL_1569 ?_
  refine law_call (mc1 := 0) (ms1 := 0) (ci := 11) (x := 0) (mj := mX11_shelf) (vs := [.int _, .int _, .int _]) (S := []) (d := 0 + 2) hx hb hml hown hts hF hS hW hl dL_1570 rfl rfl cm_X11_shelf wl_355 wl_356 wl_357 rfl (Nat.le_of_ble_eq_true rfl) (Nat.le_of_ble_eq_true rfl) (Nat.le_of_ble_eq_true rfl) (Nat.le_of_ble_eq_true rfl) (Nat.le_of_ble_eq_true rfl) (x_shelf 0 _ _ _) ?_
  rintro _ _ H locs ⟨I1, rfl, rfl, hfar⟩ hW hS
  rw [gmx_eq hfar] at hW
  dsimp only [Option.map, Option.toList, List.cons_append, List.nil_append, gtr]
  refine lv_aload_n hx hb dL_1573 rfl (lv_at hl 2 rfl) ?_
  refine lv_aload_n hx hb dL_1574 rfl (lv_at hl 0 rfl) ?_
  refine lv_iload_n hx hb dL_1575 rfl (lv_at hl 3 rfl) ?_
  refine lv_iconst (v := 1) hx hb dL_1576 (by decide) ?_
  refine lv_iadd hx hb dL_1577 ?_
  refine va_sld hx hb hX hbl hbA hS (by unfold vp_in; decide) dL_1578 ?_
  refine lv_aload_n hx hb dL_1579 rfl (lv_at hl 0 rfl) ?_
  refine lv_iload_n hx hb dL_1580 rfl (lv_at hl 3 rfl) ?_
  refine lv_iconst (v := 2) hx hb dL_1581 (by decide) ?_
  refine lv_iadd hx hb dL_1582 ?_
  refine va_sld hx hb hX hbl hbA hS (by unfold vp_in; decide) dL_1583 ?_
  refine lv_aload_n hx hb dL_1584 rfl (lv_at hl 0 rfl) ?_
  refine lv_iload_n hx hb dL_1585 rfl (lv_at hl 3 rfl) ?_
  refine lv_iconst (v := 3) hx hb dL_1586 (by decide) ?_
  refine lv_iadd hx hb dL_1587 ?_
  refine va_sld hx hb hX hbl hbA hS (by unfold vp_in; decide) dL_1588 ?_
  refine law_call (mc1 := 0) (ms1 := 0) (ci := 12) (x := 67) (mj := mX12_shelf) (vs := [.int _, .int _, .int _]) (S := [.int _]) (d := 0 + 2) hx hb hml hown hts hF hS hW hl dL_1589 rfl rfl cm_X12_shelf wl_359 wl_360 wl_361 rfl (Nat.le_of_ble_eq_true rfl) (Nat.le_of_ble_eq_true rfl) (Nat.le_of_ble_eq_true rfl) (Nat.le_of_ble_eq_true rfl) (Nat.le_of_ble_eq_true rfl) (z_shelf I1 0 _ _ _) ?_
  rintro _ h2 H locs rfl hW hS
  dsimp only [Option.map, Option.toList, List.cons_append, List.nil_append, gtr]
  refine lv_icmp_eq (tgt := 1745) hx hb dL_1592 (by decide) (fun _ => ?_) (fun z => absurd rfl z)
  exact law_end C0 hS hl
set_option maxRecDepth 100000 in
set_option maxHeartbeats 4000000 in
theorem law_45_taken {p : Program} {l : Launch} {e : Env} {s : State} {m : MethodId} {below : List Frame} {meth : Method} {c : Code} {bs : Nat} {xs : Nat → Int32} {D : va_G} {cy : Nat → ClassId} (C0 : lw_At p s m meth c bs 5 xs) (hF : gFx s.heap.size D cy s) {H : Heap} {locs : List Loc} {ls : Array Slot} (hS : va_S (gA s.heap.size) s.heap H locs) (hW : gWd s.heap.size D cy (SH0, RF0, I0) H) (hl : lv_has ls 4 [(0, .ref bs), (1, .ref (s.heap.size + 0)), (2, .ref (s.heap.size + 67)), (3, .int 0)]) : W p l e room_1 s m #[Value.ref bs] below meth c H locs 88 3546 (lw_Z below #[Value.ref bs] s) (F0 m 1597 ls []) := by
  obtain ⟨hx, hb, hr, hml, hown, hts, hX, hbl, hlocks, hgv⟩ := id C0
  have hbA : ¬ gA s.heap.size bs := Nat.not_le.mpr hbl
  refine lv_aload_n hx hb dL_1597 rfl (lv_at hl 1 rfl) ?_
  refine lv_aload_n hx hb dL_1598 rfl (lv_at hl 0 rfl) ?_
  refine lv_iload_n hx hb dL_1599 rfl (lv_at hl 3 rfl) ?_
  refine lv_iconst (v := 1) hx hb dL_1600 (by decide) ?_
  refine lv_iadd hx hb dL_1601 ?_
  refine va_sld hx hb hX hbl hbA hS (by unfold vp_in; decide) dL_1602 ?_
  refine lv_aload_n hx hb dL_1603 rfl (lv_at hl 0 rfl) ?_
  refine lv_iload_n hx hb dL_1604 rfl (lv_at hl 3 rfl) ?_
  refine lv_iconst (v := 2) hx hb dL_1605 (by decide) ?_
  refine lv_iadd hx hb dL_1606 ?_
  refine va_sld hx hb hX hbl hbA hS (by unfold vp_in; decide) dL_1607 ?_
  refine law_call (mc1 := 0) (ms1 := 0) (ci := 11) (x := 0) (mj := mX11_taken) (vs := [.int _, .int _]) (S := []) (d := 0 + 2) hx hb hml hown hts hF hS hW hl dL_1608 rfl rfl cm_X11_taken wl_363 wl_364 wl_365 rfl (Nat.le_of_ble_eq_true rfl) (Nat.le_of_ble_eq_true rfl) (Nat.le_of_ble_eq_true rfl) (Nat.le_of_ble_eq_true rfl) (Nat.le_of_ble_eq_true rfl) (x_taken 0 _ _) ?_
  rintro _ _ H locs ⟨I1, rfl, rfl, hfar⟩ hW hS
  rw [gmx_eq hfar] at hW
  dsimp only [Option.map, Option.toList, List.cons_append, List.nil_append, gtr]
  refine lv_aload_n hx hb dL_1611 rfl (lv_at hl 2 rfl) ?_
  refine lv_aload_n hx hb dL_1612 rfl (lv_at hl 0 rfl) ?_
  refine lv_iload_n hx hb dL_1613 rfl (lv_at hl 3 rfl) ?_
  refine lv_iconst (v := 1) hx hb dL_1614 (by decide) ?_
  refine lv_iadd hx hb dL_1615 ?_
  refine va_sld hx hb hX hbl hbA hS (by unfold vp_in; decide) dL_1616 ?_
  refine lv_aload_n hx hb dL_1617 rfl (lv_at hl 0 rfl) ?_
  refine lv_iload_n hx hb dL_1618 rfl (lv_at hl 3 rfl) ?_
  refine lv_iconst (v := 2) hx hb dL_1619 (by decide) ?_
  refine lv_iadd hx hb dL_1620 ?_
  refine va_sld hx hb hX hbl hbA hS (by unfold vp_in; decide) dL_1621 ?_
  refine law_call (mc1 := 0) (ms1 := 0) (ci := 12) (x := 67) (mj := mX12_taken) (vs := [.int _, .int _]) (S := [.int _]) (d := 0 + 2) hx hb hml hown hts hF hS hW hl dL_1622 rfl rfl cm_X12_taken wl_367 wl_368 wl_369 rfl (Nat.le_of_ble_eq_true rfl) (Nat.le_of_ble_eq_true rfl) (Nat.le_of_ble_eq_true rfl) (Nat.le_of_ble_eq_true rfl) (Nat.le_of_ble_eq_true rfl) (z_taken I1 0 _ _) ?_
  rintro _ h2 H locs rfl hW hS
  dsimp only [Option.map, Option.toList, List.cons_append, List.nil_append, gtr]
  refine lv_icmp_eq (tgt := 1745) hx hb dL_1625 (by decide) (fun _ => ?_) (fun z => absurd rfl z)
  exact law_end C0 hS hl
set_option maxRecDepth 100000 in
set_option maxHeartbeats 4000000 in
theorem law_46_act {p : Program} {l : Launch} {e : Env} {s : State} {m : MethodId} {below : List Frame} {meth : Method} {c : Code} {bs : Nat} {xs : Nat → Int32} {D : va_G} {cy : Nat → ClassId} (C0 : lw_At p s m meth c bs 5 xs) (hF : gFx s.heap.size D cy s) {H : Heap} {locs : List Loc} {ls : Array Slot} (hS : va_S (gA s.heap.size) s.heap H locs) (hW : gWd s.heap.size D cy (SH0, RF0, I0) H) (hl : lv_has ls 4 [(0, .ref bs), (1, .ref (s.heap.size + 0)), (2, .ref (s.heap.size + 67)), (3, .int 0)]) : W p l e room_1 s m #[Value.ref bs] below meth c H locs 88 3546 (lw_Z below #[Value.ref bs] s) (F0 m 1630 ls []) := by
  obtain ⟨hx, hb, hr, hml, hown, hts, hX, hbl, hlocks, hgv⟩ := id C0
  have hbA : ¬ gA s.heap.size bs := Nat.not_le.mpr hbl
  refine lv_aload_n hx hb dL_1630 rfl (lv_at hl 1 rfl) ?_
  refine lv_aload_n hx hb dL_1631 rfl (lv_at hl 0 rfl) ?_
  refine lv_iload_n hx hb dL_1632 rfl (lv_at hl 3 rfl) ?_
  refine lv_iconst (v := 1) hx hb dL_1633 (by decide) ?_
  refine lv_iadd hx hb dL_1634 ?_
  refine va_sld hx hb hX hbl hbA hS (by unfold vp_in; decide) dL_1635 ?_
  refine lv_aload_n hx hb dL_1636 rfl (lv_at hl 0 rfl) ?_
  refine lv_iload_n hx hb dL_1637 rfl (lv_at hl 3 rfl) ?_
  refine lv_iconst (v := 2) hx hb dL_1638 (by decide) ?_
  refine lv_iadd hx hb dL_1639 ?_
  refine va_sld hx hb hX hbl hbA hS (by unfold vp_in; decide) dL_1640 ?_
  refine lv_aload_n hx hb dL_1641 rfl (lv_at hl 0 rfl) ?_
  refine lv_iload_n hx hb dL_1642 rfl (lv_at hl 3 rfl) ?_
  refine lv_iconst (v := 3) hx hb dL_1643 (by decide) ?_
  refine lv_iadd hx hb dL_1644 ?_
  refine va_sld hx hb hX hbl hbA hS (by unfold vp_in; decide) dL_1645 ?_
  refine law_call (mc1 := 0) (ms1 := 0) (ci := 11) (x := 0) (mj := mX11_act) (vs := [.int _, .int _, .int _]) (S := []) (d := 0 + 2) hx hb hml hown hts hF hS hW hl dL_1646 rfl rfl cm_X11_act wl_371 wl_372 wl_373 rfl (Nat.le_of_ble_eq_true rfl) (Nat.le_of_ble_eq_true rfl) (Nat.le_of_ble_eq_true rfl) (Nat.le_of_ble_eq_true rfl) (Nat.le_of_ble_eq_true rfl) (x_act 0 _ _ _) ?_
  rintro _ _ H locs ⟨I1, rfl, rfl, hfar⟩ hW hS
  rw [gmx_eq hfar] at hW
  dsimp only [Option.map, Option.toList, List.cons_append, List.nil_append, gtr]
  refine lv_aload_n hx hb dL_1649 rfl (lv_at hl 2 rfl) ?_
  refine lv_aload_n hx hb dL_1650 rfl (lv_at hl 0 rfl) ?_
  refine lv_iload_n hx hb dL_1651 rfl (lv_at hl 3 rfl) ?_
  refine lv_iconst (v := 1) hx hb dL_1652 (by decide) ?_
  refine lv_iadd hx hb dL_1653 ?_
  refine va_sld hx hb hX hbl hbA hS (by unfold vp_in; decide) dL_1654 ?_
  refine lv_aload_n hx hb dL_1655 rfl (lv_at hl 0 rfl) ?_
  refine lv_iload_n hx hb dL_1656 rfl (lv_at hl 3 rfl) ?_
  refine lv_iconst (v := 2) hx hb dL_1657 (by decide) ?_
  refine lv_iadd hx hb dL_1658 ?_
  refine va_sld hx hb hX hbl hbA hS (by unfold vp_in; decide) dL_1659 ?_
  refine lv_aload_n hx hb dL_1660 rfl (lv_at hl 0 rfl) ?_
  refine lv_iload_n hx hb dL_1661 rfl (lv_at hl 3 rfl) ?_
  refine lv_iconst (v := 3) hx hb dL_1662 (by decide) ?_
  refine lv_iadd hx hb dL_1663 ?_
  refine va_sld hx hb hX hbl hbA hS (by unfold vp_in; decide) dL_1664 ?_
  refine law_call (mc1 := 0) (ms1 := 0) (ci := 12) (x := 67) (mj := mX12_act) (vs := [.int _, .int _, .int _]) (S := [.int _]) (d := 0 + 2) hx hb hml hown hts hF hS hW hl dL_1665 rfl rfl cm_X12_act wl_375 wl_376 wl_377 rfl (Nat.le_of_ble_eq_true rfl) (Nat.le_of_ble_eq_true rfl) (Nat.le_of_ble_eq_true rfl) (Nat.le_of_ble_eq_true rfl) (Nat.le_of_ble_eq_true rfl) (z_act I1 0 _ _ _) ?_
  rintro _ h2 H locs rfl hW hS
  dsimp only [Option.map, Option.toList, List.cons_append, List.nil_append, gtr]
  refine lv_icmp_eq (tgt := 1745) hx hb dL_1668 (by decide) (fun _ => ?_) (fun z => absurd rfl z)
  exact law_end C0 hS hl
set_option maxRecDepth 100000 in
set_option maxHeartbeats 4000000 in
theorem law_47_trace {p : Program} {l : Launch} {e : Env} {s : State} {m : MethodId} {below : List Frame} {meth : Method} {c : Code} {bs : Nat} {xs : Nat → Int32} {D : va_G} {cy : Nat → ClassId} (C0 : lw_At p s m meth c bs 5 xs) (hF : gFx s.heap.size D cy s) {H : Heap} {locs : List Loc} {ls : Array Slot} (hS : va_S (gA s.heap.size) s.heap H locs) (hW : gWd s.heap.size D cy (SH0, RF0, I0) H) (hl : lv_has ls 4 [(0, .ref bs), (1, .ref (s.heap.size + 0)), (2, .ref (s.heap.size + 67)), (3, .int 0)]) : W p l e room_1 s m #[Value.ref bs] below meth c H locs 88 3546 (lw_Z below #[Value.ref bs] s) (F0 m 1673 ls []) := by
  obtain ⟨hx, hb, hr, hml, hown, hts, hX, hbl, hlocks, hgv⟩ := id C0
  have hbA : ¬ gA s.heap.size bs := Nat.not_le.mpr hbl
  refine lv_aload_n hx hb dL_1673 rfl (lv_at hl 1 rfl) ?_
  refine lv_aload_n hx hb dL_1674 rfl (lv_at hl 0 rfl) ?_
  refine lv_iload_n hx hb dL_1675 rfl (lv_at hl 3 rfl) ?_
  refine lv_iconst (v := 1) hx hb dL_1676 (by decide) ?_
  refine lv_iadd hx hb dL_1677 ?_
  refine va_sld hx hb hX hbl hbA hS (by unfold vp_in; decide) dL_1678 ?_
  refine law_call (mc1 := 0) (ms1 := 0) (ci := 11) (x := 0) (mj := mX11_trace) (vs := [.int _]) (S := []) (d := 0 + 1) hx hb hml hown hts hF hS hW hl dL_1679 rfl rfl cm_X11_trace wl_379 wl_380 wl_381 rfl (Nat.le_of_ble_eq_true rfl) (Nat.le_of_ble_eq_true rfl) (Nat.le_of_ble_eq_true rfl) (Nat.le_of_ble_eq_true rfl) (Nat.le_of_ble_eq_true rfl) (x_trace 0 _) ?_
  rintro _ _ H locs ⟨I1, rfl, rfl, hfar⟩ hW hS
  rw [gmx_eq hfar] at hW
  dsimp only [Option.map, Option.toList, List.cons_append, List.nil_append, gtr]
  refine lv_aload_n hx hb dL_1682 rfl (lv_at hl 2 rfl) ?_
  refine lv_aload_n hx hb dL_1683 rfl (lv_at hl 0 rfl) ?_
  refine lv_iload_n hx hb dL_1684 rfl (lv_at hl 3 rfl) ?_
  refine lv_iconst (v := 1) hx hb dL_1685 (by decide) ?_
  refine lv_iadd hx hb dL_1686 ?_
  refine va_sld hx hb hX hbl hbA hS (by unfold vp_in; decide) dL_1687 ?_
  refine law_call (mc1 := 0) (ms1 := 0) (ci := 12) (x := 67) (mj := mX12_trace) (vs := [.int _]) (S := [.int _]) (d := 0 + 1) hx hb hml hown hts hF hS hW hl dL_1688 rfl rfl cm_X12_trace wl_383 wl_384 wl_385 rfl (Nat.le_of_ble_eq_true rfl) (Nat.le_of_ble_eq_true rfl) (Nat.le_of_ble_eq_true rfl) (Nat.le_of_ble_eq_true rfl) (Nat.le_of_ble_eq_true rfl) (z_trace I1 0 _) ?_
  rintro _ h2 H locs rfl hW hS
  dsimp only [Option.map, Option.toList, List.cons_append, List.nil_append, gtr]
  refine lv_icmp_eq (tgt := 1745) hx hb dL_1691 (by decide) (fun _ => ?_) (fun z => absurd rfl z)
  exact law_end C0 hS hl
set_option maxRecDepth 100000 in
set_option maxHeartbeats 4000000 in
theorem law_48_many {p : Program} {l : Launch} {e : Env} {s : State} {m : MethodId} {below : List Frame} {meth : Method} {c : Code} {bs : Nat} {xs : Nat → Int32} {D : va_G} {cy : Nat → ClassId} (C0 : lw_At p s m meth c bs 5 xs) (hF : gFx s.heap.size D cy s) {H : Heap} {locs : List Loc} {ls : Array Slot} (hS : va_S (gA s.heap.size) s.heap H locs) (hW : gWd s.heap.size D cy (SH0, RF0, I0) H) (hl : lv_has ls 4 [(0, .ref bs), (1, .ref (s.heap.size + 0)), (2, .ref (s.heap.size + 67)), (3, .int 0)]) : W p l e room_1 s m #[Value.ref bs] below meth c H locs 88 3546 (lw_Z below #[Value.ref bs] s) (F0 m 1696 ls []) := by
  obtain ⟨hx, hb, hr, hml, hown, hts, hX, hbl, hlocks, hgv⟩ := id C0
  have hbA : ¬ gA s.heap.size bs := Nat.not_le.mpr hbl
  refine lv_aload_n hx hb dL_1696 rfl (lv_at hl 1 rfl) ?_
  refine lv_aload_n hx hb dL_1697 rfl (lv_at hl 0 rfl) ?_
  refine lv_iload_n hx hb dL_1698 rfl (lv_at hl 3 rfl) ?_
  refine lv_iconst (v := 1) hx hb dL_1699 (by decide) ?_
  refine lv_iadd hx hb dL_1700 ?_
  refine va_sld hx hb hX hbl hbA hS (by unfold vp_in; decide) dL_1701 ?_
  refine law_call (mc1 := 0) (ms1 := 0) (ci := 11) (x := 0) (mj := mX11_many) (vs := [.int _]) (S := []) (d := 0 + 1) hx hb hml hown hts hF hS hW hl dL_1702 rfl rfl cm_X11_many wl_387 wl_388 wl_389 rfl (Nat.le_of_ble_eq_true rfl) (Nat.le_of_ble_eq_true rfl) (Nat.le_of_ble_eq_true rfl) (Nat.le_of_ble_eq_true rfl) (Nat.le_of_ble_eq_true rfl) (x_many 0 _) ?_
  rintro _ _ H locs ⟨I1, rfl, rfl, hfar⟩ hW hS
  rw [gmx_eq hfar] at hW
  dsimp only [Option.map, Option.toList, List.cons_append, List.nil_append, gtr]
  refine lv_aload_n hx hb dL_1705 rfl (lv_at hl 2 rfl) ?_
  refine lv_aload_n hx hb dL_1706 rfl (lv_at hl 0 rfl) ?_
  refine lv_iload_n hx hb dL_1707 rfl (lv_at hl 3 rfl) ?_
  refine lv_iconst (v := 1) hx hb dL_1708 (by decide) ?_
  refine lv_iadd hx hb dL_1709 ?_
  refine va_sld hx hb hX hbl hbA hS (by unfold vp_in; decide) dL_1710 ?_
  refine law_call (mc1 := 0) (ms1 := 0) (ci := 12) (x := 67) (mj := mX12_many) (vs := [.int _]) (S := [.int _]) (d := 0 + 1) hx hb hml hown hts hF hS hW hl dL_1711 rfl rfl cm_X12_many wl_391 wl_392 wl_393 rfl (Nat.le_of_ble_eq_true rfl) (Nat.le_of_ble_eq_true rfl) (Nat.le_of_ble_eq_true rfl) (Nat.le_of_ble_eq_true rfl) (Nat.le_of_ble_eq_true rfl) (z_many I1 0 _) ?_
  rintro _ h2 H locs rfl hW hS
  dsimp only [Option.map, Option.toList, List.cons_append, List.nil_append, gtr]
  refine lv_icmp_eq (tgt := 1745) hx hb dL_1714 (by decide) (fun _ => ?_) (fun z => absurd rfl z)
  exact law_end C0 hS hl
set_option maxRecDepth 100000 in
set_option maxHeartbeats 4000000 in
theorem law_49_keep {p : Program} {l : Launch} {e : Env} {s : State} {m : MethodId} {below : List Frame} {meth : Method} {c : Code} {bs : Nat} {xs : Nat → Int32} {D : va_G} {cy : Nat → ClassId} (C0 : lw_At p s m meth c bs 5 xs) (hF : gFx s.heap.size D cy s) {H : Heap} {locs : List Loc} {ls : Array Slot} (hS : va_S (gA s.heap.size) s.heap H locs) (hW : gWd s.heap.size D cy (SH0, RF0, I0) H) (hl : lv_has ls 4 [(0, .ref bs), (1, .ref (s.heap.size + 0)), (2, .ref (s.heap.size + 67)), (3, .int 0)]) : W p l e room_1 s m #[Value.ref bs] below meth c H locs 88 3546 (lw_Z below #[Value.ref bs] s) (F0 m 1719 ls []) := by
  obtain ⟨hx, hb, hr, hml, hown, hts, hX, hbl, hlocks, hgv⟩ := id C0
  have hbA : ¬ gA s.heap.size bs := Nat.not_le.mpr hbl
  refine lv_aload_n hx hb dL_1719 rfl (lv_at hl 1 rfl) ?_
  refine law_call (mc1 := 0) (ms1 := 0) (ci := 11) (x := 0) (mj := mX11_keep) (vs := []) (S := []) (d := 0 + 3) hx hb hml hown hts hF hS hW hl dL_1720 rfl rfl cm_X11_keep wl_395 wl_396 wl_397 rfl (Nat.le_of_ble_eq_true rfl) (Nat.le_of_ble_eq_true rfl) (Nat.le_of_ble_eq_true rfl) (Nat.le_of_ble_eq_true rfl) (Nat.le_of_ble_eq_true rfl) (x_keep 0 ) ?_
  rintro _ _ H locs ⟨I1, rfl, rfl, hfar⟩ hW hS
  rw [gmx_eq hfar] at hW
  dsimp only [Option.map, Option.toList, List.cons_append, List.nil_append, gtr]
  refine lv_aload_n hx hb dL_1723 rfl (lv_at hl 2 rfl) ?_
  refine law_call (mc1 := 0) (ms1 := 0) (ci := 12) (x := 67) (mj := mX12_keep) (vs := []) (S := [.int _]) (d := 0) hx hb hml hown hts hF hS hW hl dL_1724 rfl rfl cm_X12_keep wl_399 wl_400 wl_401 rfl (Nat.le_of_ble_eq_true rfl) (Nat.le_of_ble_eq_true rfl) (Nat.le_of_ble_eq_true rfl) (Nat.le_of_ble_eq_true rfl) (Nat.le_of_ble_eq_true rfl) (z_keep I1 0 ) ?_
  rintro _ h2 H locs rfl hW hS
  dsimp only [Option.map, Option.toList, List.cons_append, List.nil_append, gtr]
  refine lv_icmp_eq (tgt := 1745) hx hb dL_1727 (by decide) (fun _ => ?_) (fun z => absurd rfl z)
  exact law_end C0 hS hl
set_option maxRecDepth 100000 in
set_option maxHeartbeats 4000000 in
theorem law_50_again {p : Program} {l : Launch} {e : Env} {s : State} {m : MethodId} {below : List Frame} {meth : Method} {c : Code} {bs : Nat} {xs : Nat → Int32} {D : va_G} {cy : Nat → ClassId} (C0 : lw_At p s m meth c bs 5 xs) (hF : gFx s.heap.size D cy s) {H : Heap} {locs : List Loc} {ls : Array Slot} (hS : va_S (gA s.heap.size) s.heap H locs) (hW : gWd s.heap.size D cy (SH0, RF0, I0) H) (hl : lv_has ls 4 [(0, .ref bs), (1, .ref (s.heap.size + 0)), (2, .ref (s.heap.size + 67)), (3, .int 0)]) : W p l e room_1 s m #[Value.ref bs] below meth c H locs 88 3546 (lw_Z below #[Value.ref bs] s) (F0 m 1732 ls []) := by
  obtain ⟨hx, hb, hr, hml, hown, hts, hX, hbl, hlocks, hgv⟩ := id C0
  have hbA : ¬ gA s.heap.size bs := Nat.not_le.mpr hbl
  refine lv_aload_n hx hb dL_1732 rfl (lv_at hl 1 rfl) ?_
  refine law_call (mc1 := 0) (ms1 := 0) (ci := 11) (x := 0) (mj := mX11_again) (vs := []) (S := []) (d := 0) hx hb hml hown hts hF hS hW hl dL_1733 rfl rfl cm_X11_again wl_403 wl_404 wl_405 rfl (Nat.le_of_ble_eq_true rfl) (Nat.le_of_ble_eq_true rfl) (Nat.le_of_ble_eq_true rfl) (Nat.le_of_ble_eq_true rfl) (Nat.le_of_ble_eq_true rfl) (x_again 0 ) ?_
  rintro _ _ H locs ⟨I1, rfl, rfl, hfar⟩ hW hS
  rw [gmx_eq hfar] at hW
  dsimp only [Option.map, Option.toList, List.cons_append, List.nil_append, gtr]
  refine lv_aload_n hx hb dL_1736 rfl (lv_at hl 2 rfl) ?_
  refine law_call (mc1 := 0) (ms1 := 0) (ci := 12) (x := 67) (mj := mX12_again) (vs := []) (S := [.int _]) (d := 0) hx hb hml hown hts hF hS hW hl dL_1737 rfl rfl cm_X12_again wl_407 wl_408 wl_409 rfl (Nat.le_of_ble_eq_true rfl) (Nat.le_of_ble_eq_true rfl) (Nat.le_of_ble_eq_true rfl) (Nat.le_of_ble_eq_true rfl) (Nat.le_of_ble_eq_true rfl) (z_again I1 0 ) ?_
  rintro _ h2 H locs rfl hW hS
  dsimp only [Option.map, Option.toList, List.cons_append, List.nil_append, gtr]
  refine lv_icmp_eq (tgt := 1745) hx hb dL_1740 (by decide) (fun _ => ?_) (fun z => absurd rfl z)
  exact law_end C0 hS hl
