theorem dLaw_0 : decode code 0 = .ok (.new 7, 3) := by decide +kernel
theorem dLaw_3 : decode code 3 = .ok (.dup, 1) := by decide +kernel
theorem dLaw_4 : decode code 4 = .ok (.invokespecial 9, 3) := by decide +kernel
theorem dLaw_7 : decode code 7 = .ok (.astore_n 1, 1) := by decide +kernel
theorem dLaw_8 : decode code 8 = .ok (.new 10, 3) := by decide +kernel
theorem dLaw_11 : decode code 11 = .ok (.dup, 1) := by decide +kernel
theorem dLaw_12 : decode code 12 = .ok (.invokespecial 12, 3) := by decide +kernel
theorem dLaw_15 : decode code 15 = .ok (.astore_n 2, 1) := by decide +kernel
theorem dLaw_16 : decode code 16 = .ok (.iconst 0, 1) := by decide +kernel
theorem dLaw_17 : decode code 17 = .ok (.istore_n 3, 1) := by decide +kernel
theorem dLaw_18 : decode code 18 = .ok (.iload_n 3, 1) := by decide +kernel
theorem dLaw_19 : decode code 19 = .ok (.aload_n 0, 1) := by decide +kernel
theorem dLaw_20 : decode code 20 = .ok (.arraylength, 1) := by decide +kernel
theorem dLaw_21 : decode code 21 = .ok (.bipush 7, 2) := by decide +kernel
theorem dLaw_23 : decode code 23 = .ok (.isub, 1) := by decide +kernel
theorem dLaw_24 : decode code 24 = .ok (.if_icmp .gt 1986, 3) := by decide +kernel
theorem dLaw_27 : decode code 27 = .ok (.aload_n 0, 1) := by decide +kernel
theorem dLaw_28 : decode code 28 = .ok (.iload_n 3, 1) := by decide +kernel
theorem dLaw_29 : decode code 29 = .ok (.iaload, 1) := by decide +kernel
theorem dLaw_30 : decode code 30 = .ok (.bipush 63, 2) := by decide +kernel
theorem dLaw_32 : decode code 32 = .ok (.iand, 1) := by decide +kernel
set_option maxHeartbeats 4000000 in set_option maxRecDepth 100000 in theorem dLaw_33 : decode code 33 = .ok (.tableswitch 1971 0 51 #[223, 298, 331, 374, 417, 440, 463, 506, 539, 602, 625, 638, 651, 664, 677, 700, 733, 776, 819, 862, 905, 938, 981, 1024, 1067, 1120, 1133, 1176, 1219, 1262, 1325, 1378, 1391, 1414, 1447, 1470, 1513, 1526, 1549, 1602, 1645, 1698, 1751, 1764, 1777, 1810, 1833, 1866, 1889, 1912, 1935, 1958], 223) := by decide +kernel
theorem dLaw_256 : decode code 256 = .ok (.aload_n 1, 1) := by decide +kernel
theorem dLaw_257 : decode code 257 = .ok (.aload_n 0, 1) := by decide +kernel
theorem dLaw_258 : decode code 258 = .ok (.iload_n 3, 1) := by decide +kernel
theorem dLaw_259 : decode code 259 = .ok (.iconst 1, 1) := by decide +kernel
theorem dLaw_260 : decode code 260 = .ok (.iadd, 1) := by decide +kernel
theorem dLaw_261 : decode code 261 = .ok (.iaload, 1) := by decide +kernel
theorem dLaw_262 : decode code 262 = .ok (.aload_n 0, 1) := by decide +kernel
theorem dLaw_263 : decode code 263 = .ok (.iload_n 3, 1) := by decide +kernel
theorem dLaw_264 : decode code 264 = .ok (.iconst 2, 1) := by decide +kernel
theorem dLaw_265 : decode code 265 = .ok (.iadd, 1) := by decide +kernel
theorem dLaw_266 : decode code 266 = .ok (.iaload, 1) := by decide +kernel
theorem dLaw_267 : decode code 267 = .ok (.aload_n 0, 1) := by decide +kernel
theorem dLaw_268 : decode code 268 = .ok (.iload_n 3, 1) := by decide +kernel
theorem dLaw_269 : decode code 269 = .ok (.iconst 3, 1) := by decide +kernel
theorem dLaw_270 : decode code 270 = .ok (.iadd, 1) := by decide +kernel
theorem dLaw_271 : decode code 271 = .ok (.iaload, 1) := by decide +kernel
theorem dLaw_272 : decode code 272 = .ok (.aload_n 0, 1) := by decide +kernel
theorem dLaw_273 : decode code 273 = .ok (.iload_n 3, 1) := by decide +kernel
theorem dLaw_274 : decode code 274 = .ok (.iconst 4, 1) := by decide +kernel
theorem dLaw_275 : decode code 275 = .ok (.iadd, 1) := by decide +kernel
theorem dLaw_276 : decode code 276 = .ok (.iaload, 1) := by decide +kernel
theorem dLaw_277 : decode code 277 = .ok (.aload_n 0, 1) := by decide +kernel
theorem dLaw_278 : decode code 278 = .ok (.iload_n 3, 1) := by decide +kernel
theorem dLaw_279 : decode code 279 = .ok (.iconst 5, 1) := by decide +kernel
theorem dLaw_280 : decode code 280 = .ok (.iadd, 1) := by decide +kernel
theorem dLaw_281 : decode code 281 = .ok (.iaload, 1) := by decide +kernel
theorem dLaw_282 : decode code 282 = .ok (.aload_n 0, 1) := by decide +kernel
theorem dLaw_283 : decode code 283 = .ok (.iload_n 3, 1) := by decide +kernel
theorem dLaw_284 : decode code 284 = .ok (.bipush 6, 2) := by decide +kernel
theorem dLaw_286 : decode code 286 = .ok (.iadd, 1) := by decide +kernel
theorem dLaw_287 : decode code 287 = .ok (.iaload, 1) := by decide +kernel
theorem dLaw_288 : decode code 288 = .ok (.invokevirtual 13, 3) := by decide +kernel
theorem dLaw_291 : decode code 291 = .ok (.aload_n 2, 1) := by decide +kernel
theorem dLaw_292 : decode code 292 = .ok (.aload_n 0, 1) := by decide +kernel
theorem dLaw_293 : decode code 293 = .ok (.iload_n 3, 1) := by decide +kernel
theorem dLaw_294 : decode code 294 = .ok (.iconst 1, 1) := by decide +kernel
theorem dLaw_295 : decode code 295 = .ok (.iadd, 1) := by decide +kernel
theorem dLaw_296 : decode code 296 = .ok (.iaload, 1) := by decide +kernel
theorem dLaw_297 : decode code 297 = .ok (.aload_n 0, 1) := by decide +kernel
theorem dLaw_298 : decode code 298 = .ok (.iload_n 3, 1) := by decide +kernel
theorem dLaw_299 : decode code 299 = .ok (.iconst 2, 1) := by decide +kernel
theorem dLaw_300 : decode code 300 = .ok (.iadd, 1) := by decide +kernel
theorem dLaw_301 : decode code 301 = .ok (.iaload, 1) := by decide +kernel
theorem dLaw_302 : decode code 302 = .ok (.aload_n 0, 1) := by decide +kernel
theorem dLaw_303 : decode code 303 = .ok (.iload_n 3, 1) := by decide +kernel
theorem dLaw_304 : decode code 304 = .ok (.iconst 3, 1) := by decide +kernel
theorem dLaw_305 : decode code 305 = .ok (.iadd, 1) := by decide +kernel
theorem dLaw_306 : decode code 306 = .ok (.iaload, 1) := by decide +kernel
theorem dLaw_307 : decode code 307 = .ok (.aload_n 0, 1) := by decide +kernel
theorem dLaw_308 : decode code 308 = .ok (.iload_n 3, 1) := by decide +kernel
theorem dLaw_309 : decode code 309 = .ok (.iconst 4, 1) := by decide +kernel
theorem dLaw_310 : decode code 310 = .ok (.iadd, 1) := by decide +kernel
theorem dLaw_311 : decode code 311 = .ok (.iaload, 1) := by decide +kernel
theorem dLaw_312 : decode code 312 = .ok (.aload_n 0, 1) := by decide +kernel
theorem dLaw_313 : decode code 313 = .ok (.iload_n 3, 1) := by decide +kernel
theorem dLaw_314 : decode code 314 = .ok (.iconst 5, 1) := by decide +kernel
theorem dLaw_315 : decode code 315 = .ok (.iadd, 1) := by decide +kernel
theorem dLaw_316 : decode code 316 = .ok (.iaload, 1) := by decide +kernel
theorem dLaw_317 : decode code 317 = .ok (.aload_n 0, 1) := by decide +kernel
theorem dLaw_318 : decode code 318 = .ok (.iload_n 3, 1) := by decide +kernel
theorem dLaw_319 : decode code 319 = .ok (.bipush 6, 2) := by decide +kernel
theorem dLaw_321 : decode code 321 = .ok (.iadd, 1) := by decide +kernel
theorem dLaw_322 : decode code 322 = .ok (.iaload, 1) := by decide +kernel
theorem dLaw_323 : decode code 323 = .ok (.invokevirtual 17, 3) := by decide +kernel
theorem dLaw_326 : decode code 326 = .ok (.if_icmp .eq 1678, 3) := by decide +kernel
theorem dLaw_329 : decode code 329 = .ok (.iconst 0, 1) := by decide +kernel
theorem dLaw_330 : decode code 330 = .ok (.ireturn, 1) := by decide +kernel
theorem dLaw_331 : decode code 331 = .ok (.aload_n 1, 1) := by decide +kernel
theorem dLaw_332 : decode code 332 = .ok (.aload_n 0, 1) := by decide +kernel
theorem dLaw_333 : decode code 333 = .ok (.iload_n 3, 1) := by decide +kernel
theorem dLaw_334 : decode code 334 = .ok (.iconst 1, 1) := by decide +kernel
theorem dLaw_335 : decode code 335 = .ok (.iadd, 1) := by decide +kernel
theorem dLaw_336 : decode code 336 = .ok (.iaload, 1) := by decide +kernel
theorem dLaw_337 : decode code 337 = .ok (.aload_n 0, 1) := by decide +kernel
theorem dLaw_338 : decode code 338 = .ok (.iload_n 3, 1) := by decide +kernel
theorem dLaw_339 : decode code 339 = .ok (.iconst 2, 1) := by decide +kernel
theorem dLaw_340 : decode code 340 = .ok (.iadd, 1) := by decide +kernel
theorem dLaw_341 : decode code 341 = .ok (.iaload, 1) := by decide +kernel
theorem dLaw_342 : decode code 342 = .ok (.invokevirtual 18, 3) := by decide +kernel
theorem dLaw_345 : decode code 345 = .ok (.pop, 1) := by decide +kernel
theorem dLaw_346 : decode code 346 = .ok (.aload_n 2, 1) := by decide +kernel
theorem dLaw_347 : decode code 347 = .ok (.aload_n 0, 1) := by decide +kernel
theorem dLaw_348 : decode code 348 = .ok (.iload_n 3, 1) := by decide +kernel
theorem dLaw_349 : decode code 349 = .ok (.iconst 1, 1) := by decide +kernel
theorem dLaw_350 : decode code 350 = .ok (.iadd, 1) := by decide +kernel
theorem dLaw_351 : decode code 351 = .ok (.iaload, 1) := by decide +kernel
theorem dLaw_352 : decode code 352 = .ok (.aload_n 0, 1) := by decide +kernel
theorem dLaw_353 : decode code 353 = .ok (.iload_n 3, 1) := by decide +kernel
theorem dLaw_354 : decode code 354 = .ok (.iconst 2, 1) := by decide +kernel
theorem dLaw_355 : decode code 355 = .ok (.iadd, 1) := by decide +kernel
theorem dLaw_356 : decode code 356 = .ok (.iaload, 1) := by decide +kernel
theorem dLaw_357 : decode code 357 = .ok (.invokevirtual 22, 3) := by decide +kernel
theorem dLaw_360 : decode code 360 = .ok (.pop, 1) := by decide +kernel
theorem dLaw_361 : decode code 361 = .ok (.goto 1643, 3) := by decide +kernel
theorem dLaw_364 : decode code 364 = .ok (.aload_n 1, 1) := by decide +kernel
theorem dLaw_365 : decode code 365 = .ok (.aload_n 0, 1) := by decide +kernel
theorem dLaw_366 : decode code 366 = .ok (.iload_n 3, 1) := by decide +kernel
theorem dLaw_367 : decode code 367 = .ok (.iconst 1, 1) := by decide +kernel
theorem dLaw_368 : decode code 368 = .ok (.iadd, 1) := by decide +kernel
theorem dLaw_369 : decode code 369 = .ok (.iaload, 1) := by decide +kernel
theorem dLaw_370 : decode code 370 = .ok (.aload_n 0, 1) := by decide +kernel
theorem dLaw_371 : decode code 371 = .ok (.iload_n 3, 1) := by decide +kernel
theorem dLaw_372 : decode code 372 = .ok (.iconst 2, 1) := by decide +kernel
theorem dLaw_373 : decode code 373 = .ok (.iadd, 1) := by decide +kernel
theorem dLaw_374 : decode code 374 = .ok (.iaload, 1) := by decide +kernel
theorem dLaw_375 : decode code 375 = .ok (.aload_n 0, 1) := by decide +kernel
theorem dLaw_376 : decode code 376 = .ok (.iload_n 3, 1) := by decide +kernel
theorem dLaw_377 : decode code 377 = .ok (.iconst 3, 1) := by decide +kernel
theorem dLaw_378 : decode code 378 = .ok (.iadd, 1) := by decide +kernel
theorem dLaw_379 : decode code 379 = .ok (.iaload, 1) := by decide +kernel
theorem dLaw_380 : decode code 380 = .ok (.invokevirtual 23, 3) := by decide +kernel
theorem dLaw_383 : decode code 383 = .ok (.pop, 1) := by decide +kernel
theorem dLaw_384 : decode code 384 = .ok (.aload_n 2, 1) := by decide +kernel
theorem dLaw_385 : decode code 385 = .ok (.aload_n 0, 1) := by decide +kernel
theorem dLaw_386 : decode code 386 = .ok (.iload_n 3, 1) := by decide +kernel
theorem dLaw_387 : decode code 387 = .ok (.iconst 1, 1) := by decide +kernel
theorem dLaw_388 : decode code 388 = .ok (.iadd, 1) := by decide +kernel
theorem dLaw_389 : decode code 389 = .ok (.iaload, 1) := by decide +kernel
theorem dLaw_390 : decode code 390 = .ok (.aload_n 0, 1) := by decide +kernel
theorem dLaw_391 : decode code 391 = .ok (.iload_n 3, 1) := by decide +kernel
theorem dLaw_392 : decode code 392 = .ok (.iconst 2, 1) := by decide +kernel
theorem dLaw_393 : decode code 393 = .ok (.iadd, 1) := by decide +kernel
theorem dLaw_394 : decode code 394 = .ok (.iaload, 1) := by decide +kernel
theorem dLaw_395 : decode code 395 = .ok (.aload_n 0, 1) := by decide +kernel
theorem dLaw_396 : decode code 396 = .ok (.iload_n 3, 1) := by decide +kernel
theorem dLaw_397 : decode code 397 = .ok (.iconst 3, 1) := by decide +kernel
theorem dLaw_398 : decode code 398 = .ok (.iadd, 1) := by decide +kernel
theorem dLaw_399 : decode code 399 = .ok (.iaload, 1) := by decide +kernel
theorem dLaw_400 : decode code 400 = .ok (.invokevirtual 27, 3) := by decide +kernel
theorem dLaw_403 : decode code 403 = .ok (.pop, 1) := by decide +kernel
theorem dLaw_404 : decode code 404 = .ok (.goto 1600, 3) := by decide +kernel
theorem dLaw_407 : decode code 407 = .ok (.aload_n 1, 1) := by decide +kernel
theorem dLaw_408 : decode code 408 = .ok (.aload_n 0, 1) := by decide +kernel
theorem dLaw_409 : decode code 409 = .ok (.iload_n 3, 1) := by decide +kernel
theorem dLaw_410 : decode code 410 = .ok (.iconst 1, 1) := by decide +kernel
theorem dLaw_411 : decode code 411 = .ok (.iadd, 1) := by decide +kernel
theorem dLaw_412 : decode code 412 = .ok (.iaload, 1) := by decide +kernel
theorem dLaw_413 : decode code 413 = .ok (.aload_n 0, 1) := by decide +kernel
theorem dLaw_414 : decode code 414 = .ok (.iload_n 3, 1) := by decide +kernel
theorem dLaw_415 : decode code 415 = .ok (.iconst 2, 1) := by decide +kernel
theorem dLaw_416 : decode code 416 = .ok (.iadd, 1) := by decide +kernel
theorem dLaw_417 : decode code 417 = .ok (.iaload, 1) := by decide +kernel
theorem dLaw_418 : decode code 418 = .ok (.aload_n 0, 1) := by decide +kernel
theorem dLaw_419 : decode code 419 = .ok (.iload_n 3, 1) := by decide +kernel
theorem dLaw_420 : decode code 420 = .ok (.iconst 3, 1) := by decide +kernel
theorem dLaw_421 : decode code 421 = .ok (.iadd, 1) := by decide +kernel
theorem dLaw_422 : decode code 422 = .ok (.iaload, 1) := by decide +kernel
theorem dLaw_423 : decode code 423 = .ok (.invokevirtual 28, 3) := by decide +kernel
theorem dLaw_426 : decode code 426 = .ok (.pop, 1) := by decide +kernel
theorem dLaw_427 : decode code 427 = .ok (.aload_n 2, 1) := by decide +kernel
theorem dLaw_428 : decode code 428 = .ok (.aload_n 0, 1) := by decide +kernel
theorem dLaw_429 : decode code 429 = .ok (.iload_n 3, 1) := by decide +kernel
theorem dLaw_430 : decode code 430 = .ok (.iconst 1, 1) := by decide +kernel
theorem dLaw_431 : decode code 431 = .ok (.iadd, 1) := by decide +kernel
theorem dLaw_432 : decode code 432 = .ok (.iaload, 1) := by decide +kernel
theorem dLaw_433 : decode code 433 = .ok (.aload_n 0, 1) := by decide +kernel
theorem dLaw_434 : decode code 434 = .ok (.iload_n 3, 1) := by decide +kernel
theorem dLaw_435 : decode code 435 = .ok (.iconst 2, 1) := by decide +kernel
theorem dLaw_436 : decode code 436 = .ok (.iadd, 1) := by decide +kernel
theorem dLaw_437 : decode code 437 = .ok (.iaload, 1) := by decide +kernel
theorem dLaw_438 : decode code 438 = .ok (.aload_n 0, 1) := by decide +kernel
theorem dLaw_439 : decode code 439 = .ok (.iload_n 3, 1) := by decide +kernel
theorem dLaw_440 : decode code 440 = .ok (.iconst 3, 1) := by decide +kernel
theorem dLaw_441 : decode code 441 = .ok (.iadd, 1) := by decide +kernel
theorem dLaw_442 : decode code 442 = .ok (.iaload, 1) := by decide +kernel
theorem dLaw_443 : decode code 443 = .ok (.invokevirtual 31, 3) := by decide +kernel
theorem dLaw_446 : decode code 446 = .ok (.pop, 1) := by decide +kernel
theorem dLaw_447 : decode code 447 = .ok (.goto 1557, 3) := by decide +kernel
theorem dLaw_450 : decode code 450 = .ok (.aload_n 1, 1) := by decide +kernel
theorem dLaw_451 : decode code 451 = .ok (.aload_n 0, 1) := by decide +kernel
theorem dLaw_452 : decode code 452 = .ok (.iload_n 3, 1) := by decide +kernel
theorem dLaw_453 : decode code 453 = .ok (.iconst 1, 1) := by decide +kernel
theorem dLaw_454 : decode code 454 = .ok (.iadd, 1) := by decide +kernel
theorem dLaw_455 : decode code 455 = .ok (.iaload, 1) := by decide +kernel
theorem dLaw_456 : decode code 456 = .ok (.invokevirtual 32, 3) := by decide +kernel
theorem dLaw_459 : decode code 459 = .ok (.pop, 1) := by decide +kernel
theorem dLaw_460 : decode code 460 = .ok (.aload_n 2, 1) := by decide +kernel
theorem dLaw_461 : decode code 461 = .ok (.aload_n 0, 1) := by decide +kernel
theorem dLaw_462 : decode code 462 = .ok (.iload_n 3, 1) := by decide +kernel
theorem dLaw_463 : decode code 463 = .ok (.iconst 1, 1) := by decide +kernel
theorem dLaw_464 : decode code 464 = .ok (.iadd, 1) := by decide +kernel
theorem dLaw_465 : decode code 465 = .ok (.iaload, 1) := by decide +kernel
theorem dLaw_466 : decode code 466 = .ok (.invokevirtual 36, 3) := by decide +kernel
theorem dLaw_469 : decode code 469 = .ok (.pop, 1) := by decide +kernel
theorem dLaw_470 : decode code 470 = .ok (.goto 1534, 3) := by decide +kernel
theorem dLaw_473 : decode code 473 = .ok (.aload_n 1, 1) := by decide +kernel
theorem dLaw_474 : decode code 474 = .ok (.aload_n 0, 1) := by decide +kernel
theorem dLaw_475 : decode code 475 = .ok (.iload_n 3, 1) := by decide +kernel
theorem dLaw_476 : decode code 476 = .ok (.iconst 1, 1) := by decide +kernel
theorem dLaw_477 : decode code 477 = .ok (.iadd, 1) := by decide +kernel
theorem dLaw_478 : decode code 478 = .ok (.iaload, 1) := by decide +kernel
theorem dLaw_479 : decode code 479 = .ok (.invokevirtual 37, 3) := by decide +kernel
theorem dLaw_482 : decode code 482 = .ok (.pop, 1) := by decide +kernel
theorem dLaw_483 : decode code 483 = .ok (.aload_n 2, 1) := by decide +kernel
theorem dLaw_484 : decode code 484 = .ok (.aload_n 0, 1) := by decide +kernel
theorem dLaw_485 : decode code 485 = .ok (.iload_n 3, 1) := by decide +kernel
theorem dLaw_486 : decode code 486 = .ok (.iconst 1, 1) := by decide +kernel
theorem dLaw_487 : decode code 487 = .ok (.iadd, 1) := by decide +kernel
theorem dLaw_488 : decode code 488 = .ok (.iaload, 1) := by decide +kernel
theorem dLaw_489 : decode code 489 = .ok (.invokevirtual 40, 3) := by decide +kernel
theorem dLaw_492 : decode code 492 = .ok (.pop, 1) := by decide +kernel
theorem dLaw_493 : decode code 493 = .ok (.goto 1511, 3) := by decide +kernel
theorem dLaw_496 : decode code 496 = .ok (.aload_n 1, 1) := by decide +kernel
theorem dLaw_497 : decode code 497 = .ok (.aload_n 0, 1) := by decide +kernel
theorem dLaw_498 : decode code 498 = .ok (.iload_n 3, 1) := by decide +kernel
theorem dLaw_499 : decode code 499 = .ok (.iconst 1, 1) := by decide +kernel
theorem dLaw_500 : decode code 500 = .ok (.iadd, 1) := by decide +kernel
theorem dLaw_501 : decode code 501 = .ok (.iaload, 1) := by decide +kernel
theorem dLaw_502 : decode code 502 = .ok (.aload_n 0, 1) := by decide +kernel
theorem dLaw_503 : decode code 503 = .ok (.iload_n 3, 1) := by decide +kernel
theorem dLaw_504 : decode code 504 = .ok (.iconst 2, 1) := by decide +kernel
theorem dLaw_505 : decode code 505 = .ok (.iadd, 1) := by decide +kernel
theorem dLaw_506 : decode code 506 = .ok (.iaload, 1) := by decide +kernel
theorem dLaw_507 : decode code 507 = .ok (.aload_n 0, 1) := by decide +kernel
theorem dLaw_508 : decode code 508 = .ok (.iload_n 3, 1) := by decide +kernel
theorem dLaw_509 : decode code 509 = .ok (.iconst 3, 1) := by decide +kernel
theorem dLaw_510 : decode code 510 = .ok (.iadd, 1) := by decide +kernel
theorem dLaw_511 : decode code 511 = .ok (.iaload, 1) := by decide +kernel
theorem dLaw_512 : decode code 512 = .ok (.invokevirtual 41, 3) := by decide +kernel
theorem dLaw_515 : decode code 515 = .ok (.pop, 1) := by decide +kernel
theorem dLaw_516 : decode code 516 = .ok (.aload_n 2, 1) := by decide +kernel
theorem dLaw_517 : decode code 517 = .ok (.aload_n 0, 1) := by decide +kernel
theorem dLaw_518 : decode code 518 = .ok (.iload_n 3, 1) := by decide +kernel
theorem dLaw_519 : decode code 519 = .ok (.iconst 1, 1) := by decide +kernel
theorem dLaw_520 : decode code 520 = .ok (.iadd, 1) := by decide +kernel
theorem dLaw_521 : decode code 521 = .ok (.iaload, 1) := by decide +kernel
theorem dLaw_522 : decode code 522 = .ok (.aload_n 0, 1) := by decide +kernel
theorem dLaw_523 : decode code 523 = .ok (.iload_n 3, 1) := by decide +kernel
theorem dLaw_524 : decode code 524 = .ok (.iconst 2, 1) := by decide +kernel
theorem dLaw_525 : decode code 525 = .ok (.iadd, 1) := by decide +kernel
theorem dLaw_526 : decode code 526 = .ok (.iaload, 1) := by decide +kernel
theorem dLaw_527 : decode code 527 = .ok (.aload_n 0, 1) := by decide +kernel
theorem dLaw_528 : decode code 528 = .ok (.iload_n 3, 1) := by decide +kernel
theorem dLaw_529 : decode code 529 = .ok (.iconst 3, 1) := by decide +kernel
theorem dLaw_530 : decode code 530 = .ok (.iadd, 1) := by decide +kernel
theorem dLaw_531 : decode code 531 = .ok (.iaload, 1) := by decide +kernel
theorem dLaw_532 : decode code 532 = .ok (.invokevirtual 44, 3) := by decide +kernel
theorem dLaw_535 : decode code 535 = .ok (.pop, 1) := by decide +kernel
theorem dLaw_536 : decode code 536 = .ok (.goto 1468, 3) := by decide +kernel
theorem dLaw_539 : decode code 539 = .ok (.aload_n 1, 1) := by decide +kernel
theorem dLaw_540 : decode code 540 = .ok (.aload_n 0, 1) := by decide +kernel
theorem dLaw_541 : decode code 541 = .ok (.iload_n 3, 1) := by decide +kernel
theorem dLaw_542 : decode code 542 = .ok (.iconst 1, 1) := by decide +kernel
theorem dLaw_543 : decode code 543 = .ok (.iadd, 1) := by decide +kernel
theorem dLaw_544 : decode code 544 = .ok (.iaload, 1) := by decide +kernel
theorem dLaw_545 : decode code 545 = .ok (.aload_n 0, 1) := by decide +kernel
theorem dLaw_546 : decode code 546 = .ok (.iload_n 3, 1) := by decide +kernel
theorem dLaw_547 : decode code 547 = .ok (.iconst 2, 1) := by decide +kernel
theorem dLaw_548 : decode code 548 = .ok (.iadd, 1) := by decide +kernel
theorem dLaw_549 : decode code 549 = .ok (.iaload, 1) := by decide +kernel
theorem dLaw_550 : decode code 550 = .ok (.invokevirtual 45, 3) := by decide +kernel
theorem dLaw_553 : decode code 553 = .ok (.pop, 1) := by decide +kernel
theorem dLaw_554 : decode code 554 = .ok (.aload_n 2, 1) := by decide +kernel
theorem dLaw_555 : decode code 555 = .ok (.aload_n 0, 1) := by decide +kernel
theorem dLaw_556 : decode code 556 = .ok (.iload_n 3, 1) := by decide +kernel
theorem dLaw_557 : decode code 557 = .ok (.iconst 1, 1) := by decide +kernel
theorem dLaw_558 : decode code 558 = .ok (.iadd, 1) := by decide +kernel
theorem dLaw_559 : decode code 559 = .ok (.iaload, 1) := by decide +kernel
theorem dLaw_560 : decode code 560 = .ok (.aload_n 0, 1) := by decide +kernel
theorem dLaw_561 : decode code 561 = .ok (.iload_n 3, 1) := by decide +kernel
theorem dLaw_562 : decode code 562 = .ok (.iconst 2, 1) := by decide +kernel
theorem dLaw_563 : decode code 563 = .ok (.iadd, 1) := by decide +kernel
theorem dLaw_564 : decode code 564 = .ok (.iaload, 1) := by decide +kernel
theorem dLaw_565 : decode code 565 = .ok (.invokevirtual 48, 3) := by decide +kernel
theorem dLaw_568 : decode code 568 = .ok (.pop, 1) := by decide +kernel
theorem dLaw_569 : decode code 569 = .ok (.goto 1435, 3) := by decide +kernel
theorem dLaw_572 : decode code 572 = .ok (.aload_n 1, 1) := by decide +kernel
theorem dLaw_573 : decode code 573 = .ok (.aload_n 0, 1) := by decide +kernel
theorem dLaw_574 : decode code 574 = .ok (.iload_n 3, 1) := by decide +kernel
theorem dLaw_575 : decode code 575 = .ok (.iconst 1, 1) := by decide +kernel
theorem dLaw_576 : decode code 576 = .ok (.iadd, 1) := by decide +kernel
theorem dLaw_577 : decode code 577 = .ok (.iaload, 1) := by decide +kernel
theorem dLaw_578 : decode code 578 = .ok (.aload_n 0, 1) := by decide +kernel
theorem dLaw_579 : decode code 579 = .ok (.iload_n 3, 1) := by decide +kernel
theorem dLaw_580 : decode code 580 = .ok (.iconst 2, 1) := by decide +kernel
theorem dLaw_581 : decode code 581 = .ok (.iadd, 1) := by decide +kernel
theorem dLaw_582 : decode code 582 = .ok (.iaload, 1) := by decide +kernel
theorem dLaw_583 : decode code 583 = .ok (.aload_n 0, 1) := by decide +kernel
theorem dLaw_584 : decode code 584 = .ok (.iload_n 3, 1) := by decide +kernel
theorem dLaw_585 : decode code 585 = .ok (.iconst 3, 1) := by decide +kernel
theorem dLaw_586 : decode code 586 = .ok (.iadd, 1) := by decide +kernel
theorem dLaw_587 : decode code 587 = .ok (.iaload, 1) := by decide +kernel
theorem dLaw_588 : decode code 588 = .ok (.aload_n 0, 1) := by decide +kernel
theorem dLaw_589 : decode code 589 = .ok (.iload_n 3, 1) := by decide +kernel
theorem dLaw_590 : decode code 590 = .ok (.iconst 4, 1) := by decide +kernel
theorem dLaw_591 : decode code 591 = .ok (.iadd, 1) := by decide +kernel
theorem dLaw_592 : decode code 592 = .ok (.iaload, 1) := by decide +kernel
theorem dLaw_593 : decode code 593 = .ok (.aload_n 0, 1) := by decide +kernel
theorem dLaw_594 : decode code 594 = .ok (.iload_n 3, 1) := by decide +kernel
theorem dLaw_595 : decode code 595 = .ok (.iconst 5, 1) := by decide +kernel
theorem dLaw_596 : decode code 596 = .ok (.iadd, 1) := by decide +kernel
theorem dLaw_597 : decode code 597 = .ok (.iaload, 1) := by decide +kernel
theorem dLaw_598 : decode code 598 = .ok (.invokevirtual 49, 3) := by decide +kernel
theorem dLaw_601 : decode code 601 = .ok (.pop, 1) := by decide +kernel
theorem dLaw_602 : decode code 602 = .ok (.aload_n 2, 1) := by decide +kernel
theorem dLaw_603 : decode code 603 = .ok (.aload_n 0, 1) := by decide +kernel
theorem dLaw_604 : decode code 604 = .ok (.iload_n 3, 1) := by decide +kernel
theorem dLaw_605 : decode code 605 = .ok (.iconst 1, 1) := by decide +kernel
theorem dLaw_606 : decode code 606 = .ok (.iadd, 1) := by decide +kernel
theorem dLaw_607 : decode code 607 = .ok (.iaload, 1) := by decide +kernel
theorem dLaw_608 : decode code 608 = .ok (.aload_n 0, 1) := by decide +kernel
theorem dLaw_609 : decode code 609 = .ok (.iload_n 3, 1) := by decide +kernel
theorem dLaw_610 : decode code 610 = .ok (.iconst 2, 1) := by decide +kernel
theorem dLaw_611 : decode code 611 = .ok (.iadd, 1) := by decide +kernel
theorem dLaw_612 : decode code 612 = .ok (.iaload, 1) := by decide +kernel
theorem dLaw_613 : decode code 613 = .ok (.aload_n 0, 1) := by decide +kernel
theorem dLaw_614 : decode code 614 = .ok (.iload_n 3, 1) := by decide +kernel
theorem dLaw_615 : decode code 615 = .ok (.iconst 3, 1) := by decide +kernel
theorem dLaw_616 : decode code 616 = .ok (.iadd, 1) := by decide +kernel
theorem dLaw_617 : decode code 617 = .ok (.iaload, 1) := by decide +kernel
theorem dLaw_618 : decode code 618 = .ok (.aload_n 0, 1) := by decide +kernel
theorem dLaw_619 : decode code 619 = .ok (.iload_n 3, 1) := by decide +kernel
theorem dLaw_620 : decode code 620 = .ok (.iconst 4, 1) := by decide +kernel
theorem dLaw_621 : decode code 621 = .ok (.iadd, 1) := by decide +kernel
theorem dLaw_622 : decode code 622 = .ok (.iaload, 1) := by decide +kernel
theorem dLaw_623 : decode code 623 = .ok (.aload_n 0, 1) := by decide +kernel
theorem dLaw_624 : decode code 624 = .ok (.iload_n 3, 1) := by decide +kernel
theorem dLaw_625 : decode code 625 = .ok (.iconst 5, 1) := by decide +kernel
theorem dLaw_626 : decode code 626 = .ok (.iadd, 1) := by decide +kernel
theorem dLaw_627 : decode code 627 = .ok (.iaload, 1) := by decide +kernel
theorem dLaw_628 : decode code 628 = .ok (.invokevirtual 53, 3) := by decide +kernel
theorem dLaw_631 : decode code 631 = .ok (.pop, 1) := by decide +kernel
theorem dLaw_632 : decode code 632 = .ok (.goto 1372, 3) := by decide +kernel
theorem dLaw_635 : decode code 635 = .ok (.aload_n 1, 1) := by decide +kernel
theorem dLaw_636 : decode code 636 = .ok (.aload_n 0, 1) := by decide +kernel
theorem dLaw_637 : decode code 637 = .ok (.iload_n 3, 1) := by decide +kernel
theorem dLaw_638 : decode code 638 = .ok (.iconst 1, 1) := by decide +kernel
theorem dLaw_639 : decode code 639 = .ok (.iadd, 1) := by decide +kernel
theorem dLaw_640 : decode code 640 = .ok (.iaload, 1) := by decide +kernel
theorem dLaw_641 : decode code 641 = .ok (.invokevirtual 54, 3) := by decide +kernel
theorem dLaw_644 : decode code 644 = .ok (.pop, 1) := by decide +kernel
theorem dLaw_645 : decode code 645 = .ok (.aload_n 2, 1) := by decide +kernel
theorem dLaw_646 : decode code 646 = .ok (.aload_n 0, 1) := by decide +kernel
theorem dLaw_647 : decode code 647 = .ok (.iload_n 3, 1) := by decide +kernel
theorem dLaw_648 : decode code 648 = .ok (.iconst 1, 1) := by decide +kernel
theorem dLaw_649 : decode code 649 = .ok (.iadd, 1) := by decide +kernel
theorem dLaw_650 : decode code 650 = .ok (.iaload, 1) := by decide +kernel
theorem dLaw_651 : decode code 651 = .ok (.invokevirtual 57, 3) := by decide +kernel
theorem dLaw_654 : decode code 654 = .ok (.pop, 1) := by decide +kernel
theorem dLaw_655 : decode code 655 = .ok (.goto 1349, 3) := by decide +kernel
theorem dLaw_658 : decode code 658 = .ok (.aload_n 1, 1) := by decide +kernel
theorem dLaw_659 : decode code 659 = .ok (.invokevirtual 58, 3) := by decide +kernel
theorem dLaw_662 : decode code 662 = .ok (.pop, 1) := by decide +kernel
theorem dLaw_663 : decode code 663 = .ok (.aload_n 2, 1) := by decide +kernel
theorem dLaw_664 : decode code 664 = .ok (.invokevirtual 62, 3) := by decide +kernel
theorem dLaw_667 : decode code 667 = .ok (.pop, 1) := by decide +kernel
theorem dLaw_668 : decode code 668 = .ok (.goto 1336, 3) := by decide +kernel
theorem dLaw_671 : decode code 671 = .ok (.aload_n 1, 1) := by decide +kernel
theorem dLaw_672 : decode code 672 = .ok (.invokevirtual 63, 3) := by decide +kernel
theorem dLaw_675 : decode code 675 = .ok (.pop, 1) := by decide +kernel
theorem dLaw_676 : decode code 676 = .ok (.aload_n 2, 1) := by decide +kernel
theorem dLaw_677 : decode code 677 = .ok (.invokevirtual 66, 3) := by decide +kernel
theorem dLaw_680 : decode code 680 = .ok (.pop, 1) := by decide +kernel
theorem dLaw_681 : decode code 681 = .ok (.goto 1323, 3) := by decide +kernel
theorem dLaw_684 : decode code 684 = .ok (.aload_n 1, 1) := by decide +kernel
theorem dLaw_685 : decode code 685 = .ok (.invokevirtual 67, 3) := by decide +kernel
theorem dLaw_688 : decode code 688 = .ok (.pop, 1) := by decide +kernel
theorem dLaw_689 : decode code 689 = .ok (.aload_n 2, 1) := by decide +kernel
theorem dLaw_690 : decode code 690 = .ok (.invokevirtual 70, 3) := by decide +kernel
theorem dLaw_693 : decode code 693 = .ok (.pop, 1) := by decide +kernel
theorem dLaw_694 : decode code 694 = .ok (.goto 1310, 3) := by decide +kernel
theorem dLaw_697 : decode code 697 = .ok (.aload_n 1, 1) := by decide +kernel
theorem dLaw_698 : decode code 698 = .ok (.invokevirtual 71, 3) := by decide +kernel
theorem dLaw_701 : decode code 701 = .ok (.pop, 1) := by decide +kernel
theorem dLaw_702 : decode code 702 = .ok (.aload_n 2, 1) := by decide +kernel
theorem dLaw_703 : decode code 703 = .ok (.invokevirtual 74, 3) := by decide +kernel
theorem dLaw_706 : decode code 706 = .ok (.pop, 1) := by decide +kernel
theorem dLaw_707 : decode code 707 = .ok (.goto 1297, 3) := by decide +kernel
theorem dLaw_710 : decode code 710 = .ok (.aload_n 1, 1) := by decide +kernel
theorem dLaw_711 : decode code 711 = .ok (.aload_n 0, 1) := by decide +kernel
theorem dLaw_712 : decode code 712 = .ok (.iload_n 3, 1) := by decide +kernel
theorem dLaw_713 : decode code 713 = .ok (.iconst 1, 1) := by decide +kernel
theorem dLaw_714 : decode code 714 = .ok (.iadd, 1) := by decide +kernel
theorem dLaw_715 : decode code 715 = .ok (.iaload, 1) := by decide +kernel
theorem dLaw_716 : decode code 716 = .ok (.invokevirtual 75, 3) := by decide +kernel
theorem dLaw_719 : decode code 719 = .ok (.pop, 1) := by decide +kernel
theorem dLaw_720 : decode code 720 = .ok (.aload_n 2, 1) := by decide +kernel
theorem dLaw_721 : decode code 721 = .ok (.aload_n 0, 1) := by decide +kernel
theorem dLaw_722 : decode code 722 = .ok (.iload_n 3, 1) := by decide +kernel
theorem dLaw_723 : decode code 723 = .ok (.iconst 1, 1) := by decide +kernel
theorem dLaw_724 : decode code 724 = .ok (.iadd, 1) := by decide +kernel
theorem dLaw_725 : decode code 725 = .ok (.iaload, 1) := by decide +kernel
theorem dLaw_726 : decode code 726 = .ok (.invokevirtual 78, 3) := by decide +kernel
theorem dLaw_729 : decode code 729 = .ok (.pop, 1) := by decide +kernel
theorem dLaw_730 : decode code 730 = .ok (.goto 1274, 3) := by decide +kernel
theorem dLaw_733 : decode code 733 = .ok (.aload_n 1, 1) := by decide +kernel
theorem dLaw_734 : decode code 734 = .ok (.aload_n 0, 1) := by decide +kernel
theorem dLaw_735 : decode code 735 = .ok (.iload_n 3, 1) := by decide +kernel
theorem dLaw_736 : decode code 736 = .ok (.iconst 1, 1) := by decide +kernel
theorem dLaw_737 : decode code 737 = .ok (.iadd, 1) := by decide +kernel
theorem dLaw_738 : decode code 738 = .ok (.iaload, 1) := by decide +kernel
theorem dLaw_739 : decode code 739 = .ok (.aload_n 0, 1) := by decide +kernel
theorem dLaw_740 : decode code 740 = .ok (.iload_n 3, 1) := by decide +kernel
theorem dLaw_741 : decode code 741 = .ok (.iconst 2, 1) := by decide +kernel
theorem dLaw_742 : decode code 742 = .ok (.iadd, 1) := by decide +kernel
theorem dLaw_743 : decode code 743 = .ok (.iaload, 1) := by decide +kernel
theorem dLaw_744 : decode code 744 = .ok (.invokevirtual 79, 3) := by decide +kernel
theorem dLaw_747 : decode code 747 = .ok (.pop, 1) := by decide +kernel
theorem dLaw_748 : decode code 748 = .ok (.aload_n 2, 1) := by decide +kernel
theorem dLaw_749 : decode code 749 = .ok (.aload_n 0, 1) := by decide +kernel
theorem dLaw_750 : decode code 750 = .ok (.iload_n 3, 1) := by decide +kernel
theorem dLaw_751 : decode code 751 = .ok (.iconst 1, 1) := by decide +kernel
theorem dLaw_752 : decode code 752 = .ok (.iadd, 1) := by decide +kernel
theorem dLaw_753 : decode code 753 = .ok (.iaload, 1) := by decide +kernel
theorem dLaw_754 : decode code 754 = .ok (.aload_n 0, 1) := by decide +kernel
theorem dLaw_755 : decode code 755 = .ok (.iload_n 3, 1) := by decide +kernel
theorem dLaw_756 : decode code 756 = .ok (.iconst 2, 1) := by decide +kernel
theorem dLaw_757 : decode code 757 = .ok (.iadd, 1) := by decide +kernel
theorem dLaw_758 : decode code 758 = .ok (.iaload, 1) := by decide +kernel
theorem dLaw_759 : decode code 759 = .ok (.invokevirtual 82, 3) := by decide +kernel
theorem dLaw_762 : decode code 762 = .ok (.pop, 1) := by decide +kernel
theorem dLaw_763 : decode code 763 = .ok (.goto 1241, 3) := by decide +kernel
theorem dLaw_766 : decode code 766 = .ok (.aload_n 1, 1) := by decide +kernel
theorem dLaw_767 : decode code 767 = .ok (.aload_n 0, 1) := by decide +kernel
theorem dLaw_768 : decode code 768 = .ok (.iload_n 3, 1) := by decide +kernel
theorem dLaw_769 : decode code 769 = .ok (.iconst 1, 1) := by decide +kernel
theorem dLaw_770 : decode code 770 = .ok (.iadd, 1) := by decide +kernel
theorem dLaw_771 : decode code 771 = .ok (.iaload, 1) := by decide +kernel
theorem dLaw_772 : decode code 772 = .ok (.aload_n 0, 1) := by decide +kernel
theorem dLaw_773 : decode code 773 = .ok (.iload_n 3, 1) := by decide +kernel
theorem dLaw_774 : decode code 774 = .ok (.iconst 2, 1) := by decide +kernel
theorem dLaw_775 : decode code 775 = .ok (.iadd, 1) := by decide +kernel
theorem dLaw_776 : decode code 776 = .ok (.iaload, 1) := by decide +kernel
theorem dLaw_777 : decode code 777 = .ok (.aload_n 0, 1) := by decide +kernel
theorem dLaw_778 : decode code 778 = .ok (.iload_n 3, 1) := by decide +kernel
theorem dLaw_779 : decode code 779 = .ok (.iconst 3, 1) := by decide +kernel
theorem dLaw_780 : decode code 780 = .ok (.iadd, 1) := by decide +kernel
theorem dLaw_781 : decode code 781 = .ok (.iaload, 1) := by decide +kernel
theorem dLaw_782 : decode code 782 = .ok (.invokevirtual 83, 3) := by decide +kernel
theorem dLaw_785 : decode code 785 = .ok (.pop, 1) := by decide +kernel
theorem dLaw_786 : decode code 786 = .ok (.aload_n 2, 1) := by decide +kernel
theorem dLaw_787 : decode code 787 = .ok (.aload_n 0, 1) := by decide +kernel
theorem dLaw_788 : decode code 788 = .ok (.iload_n 3, 1) := by decide +kernel
theorem dLaw_789 : decode code 789 = .ok (.iconst 1, 1) := by decide +kernel
theorem dLaw_790 : decode code 790 = .ok (.iadd, 1) := by decide +kernel
theorem dLaw_791 : decode code 791 = .ok (.iaload, 1) := by decide +kernel
theorem dLaw_792 : decode code 792 = .ok (.aload_n 0, 1) := by decide +kernel
theorem dLaw_793 : decode code 793 = .ok (.iload_n 3, 1) := by decide +kernel
theorem dLaw_794 : decode code 794 = .ok (.iconst 2, 1) := by decide +kernel
theorem dLaw_795 : decode code 795 = .ok (.iadd, 1) := by decide +kernel
theorem dLaw_796 : decode code 796 = .ok (.iaload, 1) := by decide +kernel
theorem dLaw_797 : decode code 797 = .ok (.aload_n 0, 1) := by decide +kernel
theorem dLaw_798 : decode code 798 = .ok (.iload_n 3, 1) := by decide +kernel
theorem dLaw_799 : decode code 799 = .ok (.iconst 3, 1) := by decide +kernel
theorem dLaw_800 : decode code 800 = .ok (.iadd, 1) := by decide +kernel
theorem dLaw_801 : decode code 801 = .ok (.iaload, 1) := by decide +kernel
theorem dLaw_802 : decode code 802 = .ok (.invokevirtual 86, 3) := by decide +kernel
theorem dLaw_805 : decode code 805 = .ok (.pop, 1) := by decide +kernel
theorem dLaw_806 : decode code 806 = .ok (.goto 1198, 3) := by decide +kernel
theorem dLaw_809 : decode code 809 = .ok (.aload_n 1, 1) := by decide +kernel
theorem dLaw_810 : decode code 810 = .ok (.aload_n 0, 1) := by decide +kernel
theorem dLaw_811 : decode code 811 = .ok (.iload_n 3, 1) := by decide +kernel
theorem dLaw_812 : decode code 812 = .ok (.iconst 1, 1) := by decide +kernel
theorem dLaw_813 : decode code 813 = .ok (.iadd, 1) := by decide +kernel
theorem dLaw_814 : decode code 814 = .ok (.iaload, 1) := by decide +kernel
theorem dLaw_815 : decode code 815 = .ok (.aload_n 0, 1) := by decide +kernel
theorem dLaw_816 : decode code 816 = .ok (.iload_n 3, 1) := by decide +kernel
theorem dLaw_817 : decode code 817 = .ok (.iconst 2, 1) := by decide +kernel
theorem dLaw_818 : decode code 818 = .ok (.iadd, 1) := by decide +kernel
theorem dLaw_819 : decode code 819 = .ok (.iaload, 1) := by decide +kernel
theorem dLaw_820 : decode code 820 = .ok (.aload_n 0, 1) := by decide +kernel
theorem dLaw_821 : decode code 821 = .ok (.iload_n 3, 1) := by decide +kernel
theorem dLaw_822 : decode code 822 = .ok (.iconst 3, 1) := by decide +kernel
theorem dLaw_823 : decode code 823 = .ok (.iadd, 1) := by decide +kernel
theorem dLaw_824 : decode code 824 = .ok (.iaload, 1) := by decide +kernel
theorem dLaw_825 : decode code 825 = .ok (.invokevirtual 87, 3) := by decide +kernel
theorem dLaw_828 : decode code 828 = .ok (.pop, 1) := by decide +kernel
theorem dLaw_829 : decode code 829 = .ok (.aload_n 2, 1) := by decide +kernel
theorem dLaw_830 : decode code 830 = .ok (.aload_n 0, 1) := by decide +kernel
theorem dLaw_831 : decode code 831 = .ok (.iload_n 3, 1) := by decide +kernel
theorem dLaw_832 : decode code 832 = .ok (.iconst 1, 1) := by decide +kernel
theorem dLaw_833 : decode code 833 = .ok (.iadd, 1) := by decide +kernel
theorem dLaw_834 : decode code 834 = .ok (.iaload, 1) := by decide +kernel
theorem dLaw_835 : decode code 835 = .ok (.aload_n 0, 1) := by decide +kernel
theorem dLaw_836 : decode code 836 = .ok (.iload_n 3, 1) := by decide +kernel
theorem dLaw_837 : decode code 837 = .ok (.iconst 2, 1) := by decide +kernel
theorem dLaw_838 : decode code 838 = .ok (.iadd, 1) := by decide +kernel
theorem dLaw_839 : decode code 839 = .ok (.iaload, 1) := by decide +kernel
theorem dLaw_840 : decode code 840 = .ok (.aload_n 0, 1) := by decide +kernel
theorem dLaw_841 : decode code 841 = .ok (.iload_n 3, 1) := by decide +kernel
theorem dLaw_842 : decode code 842 = .ok (.iconst 3, 1) := by decide +kernel
theorem dLaw_843 : decode code 843 = .ok (.iadd, 1) := by decide +kernel
theorem dLaw_844 : decode code 844 = .ok (.iaload, 1) := by decide +kernel
theorem dLaw_845 : decode code 845 = .ok (.invokevirtual 90, 3) := by decide +kernel
theorem dLaw_848 : decode code 848 = .ok (.pop, 1) := by decide +kernel
theorem dLaw_849 : decode code 849 = .ok (.goto 1155, 3) := by decide +kernel
theorem dLaw_852 : decode code 852 = .ok (.aload_n 1, 1) := by decide +kernel
theorem dLaw_853 : decode code 853 = .ok (.aload_n 0, 1) := by decide +kernel
theorem dLaw_854 : decode code 854 = .ok (.iload_n 3, 1) := by decide +kernel
theorem dLaw_855 : decode code 855 = .ok (.iconst 1, 1) := by decide +kernel
theorem dLaw_856 : decode code 856 = .ok (.iadd, 1) := by decide +kernel
theorem dLaw_857 : decode code 857 = .ok (.iaload, 1) := by decide +kernel
theorem dLaw_858 : decode code 858 = .ok (.aload_n 0, 1) := by decide +kernel
theorem dLaw_859 : decode code 859 = .ok (.iload_n 3, 1) := by decide +kernel
theorem dLaw_860 : decode code 860 = .ok (.iconst 2, 1) := by decide +kernel
theorem dLaw_861 : decode code 861 = .ok (.iadd, 1) := by decide +kernel
theorem dLaw_862 : decode code 862 = .ok (.iaload, 1) := by decide +kernel
theorem dLaw_863 : decode code 863 = .ok (.aload_n 0, 1) := by decide +kernel
theorem dLaw_864 : decode code 864 = .ok (.iload_n 3, 1) := by decide +kernel
theorem dLaw_865 : decode code 865 = .ok (.iconst 3, 1) := by decide +kernel
theorem dLaw_866 : decode code 866 = .ok (.iadd, 1) := by decide +kernel
theorem dLaw_867 : decode code 867 = .ok (.iaload, 1) := by decide +kernel
theorem dLaw_868 : decode code 868 = .ok (.invokevirtual 91, 3) := by decide +kernel
theorem dLaw_871 : decode code 871 = .ok (.pop, 1) := by decide +kernel
theorem dLaw_872 : decode code 872 = .ok (.aload_n 2, 1) := by decide +kernel
theorem dLaw_873 : decode code 873 = .ok (.aload_n 0, 1) := by decide +kernel
theorem dLaw_874 : decode code 874 = .ok (.iload_n 3, 1) := by decide +kernel
theorem dLaw_875 : decode code 875 = .ok (.iconst 1, 1) := by decide +kernel
theorem dLaw_876 : decode code 876 = .ok (.iadd, 1) := by decide +kernel
theorem dLaw_877 : decode code 877 = .ok (.iaload, 1) := by decide +kernel
theorem dLaw_878 : decode code 878 = .ok (.aload_n 0, 1) := by decide +kernel
theorem dLaw_879 : decode code 879 = .ok (.iload_n 3, 1) := by decide +kernel
theorem dLaw_880 : decode code 880 = .ok (.iconst 2, 1) := by decide +kernel
theorem dLaw_881 : decode code 881 = .ok (.iadd, 1) := by decide +kernel
theorem dLaw_882 : decode code 882 = .ok (.iaload, 1) := by decide +kernel
theorem dLaw_883 : decode code 883 = .ok (.aload_n 0, 1) := by decide +kernel
theorem dLaw_884 : decode code 884 = .ok (.iload_n 3, 1) := by decide +kernel
theorem dLaw_885 : decode code 885 = .ok (.iconst 3, 1) := by decide +kernel
theorem dLaw_886 : decode code 886 = .ok (.iadd, 1) := by decide +kernel
theorem dLaw_887 : decode code 887 = .ok (.iaload, 1) := by decide +kernel
theorem dLaw_888 : decode code 888 = .ok (.invokevirtual 94, 3) := by decide +kernel
theorem dLaw_891 : decode code 891 = .ok (.pop, 1) := by decide +kernel
theorem dLaw_892 : decode code 892 = .ok (.goto 1112, 3) := by decide +kernel
theorem dLaw_895 : decode code 895 = .ok (.aload_n 1, 1) := by decide +kernel
theorem dLaw_896 : decode code 896 = .ok (.aload_n 0, 1) := by decide +kernel
theorem dLaw_897 : decode code 897 = .ok (.iload_n 3, 1) := by decide +kernel
theorem dLaw_898 : decode code 898 = .ok (.iconst 1, 1) := by decide +kernel
theorem dLaw_899 : decode code 899 = .ok (.iadd, 1) := by decide +kernel
theorem dLaw_900 : decode code 900 = .ok (.iaload, 1) := by decide +kernel
theorem dLaw_901 : decode code 901 = .ok (.aload_n 0, 1) := by decide +kernel
theorem dLaw_902 : decode code 902 = .ok (.iload_n 3, 1) := by decide +kernel
theorem dLaw_903 : decode code 903 = .ok (.iconst 2, 1) := by decide +kernel
theorem dLaw_904 : decode code 904 = .ok (.iadd, 1) := by decide +kernel
theorem dLaw_905 : decode code 905 = .ok (.iaload, 1) := by decide +kernel
theorem dLaw_906 : decode code 906 = .ok (.aload_n 0, 1) := by decide +kernel
theorem dLaw_907 : decode code 907 = .ok (.iload_n 3, 1) := by decide +kernel
theorem dLaw_908 : decode code 908 = .ok (.iconst 3, 1) := by decide +kernel
theorem dLaw_909 : decode code 909 = .ok (.iadd, 1) := by decide +kernel
theorem dLaw_910 : decode code 910 = .ok (.iaload, 1) := by decide +kernel
theorem dLaw_911 : decode code 911 = .ok (.invokevirtual 95, 3) := by decide +kernel
theorem dLaw_914 : decode code 914 = .ok (.pop, 1) := by decide +kernel
theorem dLaw_915 : decode code 915 = .ok (.aload_n 2, 1) := by decide +kernel
theorem dLaw_916 : decode code 916 = .ok (.aload_n 0, 1) := by decide +kernel
theorem dLaw_917 : decode code 917 = .ok (.iload_n 3, 1) := by decide +kernel
theorem dLaw_918 : decode code 918 = .ok (.iconst 1, 1) := by decide +kernel
theorem dLaw_919 : decode code 919 = .ok (.iadd, 1) := by decide +kernel
theorem dLaw_920 : decode code 920 = .ok (.iaload, 1) := by decide +kernel
theorem dLaw_921 : decode code 921 = .ok (.aload_n 0, 1) := by decide +kernel
theorem dLaw_922 : decode code 922 = .ok (.iload_n 3, 1) := by decide +kernel
theorem dLaw_923 : decode code 923 = .ok (.iconst 2, 1) := by decide +kernel
theorem dLaw_924 : decode code 924 = .ok (.iadd, 1) := by decide +kernel
theorem dLaw_925 : decode code 925 = .ok (.iaload, 1) := by decide +kernel
theorem dLaw_926 : decode code 926 = .ok (.aload_n 0, 1) := by decide +kernel
theorem dLaw_927 : decode code 927 = .ok (.iload_n 3, 1) := by decide +kernel
theorem dLaw_928 : decode code 928 = .ok (.iconst 3, 1) := by decide +kernel
theorem dLaw_929 : decode code 929 = .ok (.iadd, 1) := by decide +kernel
theorem dLaw_930 : decode code 930 = .ok (.iaload, 1) := by decide +kernel
theorem dLaw_931 : decode code 931 = .ok (.invokevirtual 98, 3) := by decide +kernel
theorem dLaw_934 : decode code 934 = .ok (.pop, 1) := by decide +kernel
theorem dLaw_935 : decode code 935 = .ok (.goto 1069, 3) := by decide +kernel
theorem dLaw_938 : decode code 938 = .ok (.aload_n 1, 1) := by decide +kernel
theorem dLaw_939 : decode code 939 = .ok (.aload_n 0, 1) := by decide +kernel
theorem dLaw_940 : decode code 940 = .ok (.iload_n 3, 1) := by decide +kernel
theorem dLaw_941 : decode code 941 = .ok (.iconst 1, 1) := by decide +kernel
theorem dLaw_942 : decode code 942 = .ok (.iadd, 1) := by decide +kernel
theorem dLaw_943 : decode code 943 = .ok (.iaload, 1) := by decide +kernel
theorem dLaw_944 : decode code 944 = .ok (.aload_n 0, 1) := by decide +kernel
theorem dLaw_945 : decode code 945 = .ok (.iload_n 3, 1) := by decide +kernel
theorem dLaw_946 : decode code 946 = .ok (.iconst 2, 1) := by decide +kernel
theorem dLaw_947 : decode code 947 = .ok (.iadd, 1) := by decide +kernel
theorem dLaw_948 : decode code 948 = .ok (.iaload, 1) := by decide +kernel
theorem dLaw_949 : decode code 949 = .ok (.invokevirtual 99, 3) := by decide +kernel
theorem dLaw_952 : decode code 952 = .ok (.pop, 1) := by decide +kernel
theorem dLaw_953 : decode code 953 = .ok (.aload_n 2, 1) := by decide +kernel
theorem dLaw_954 : decode code 954 = .ok (.aload_n 0, 1) := by decide +kernel
theorem dLaw_955 : decode code 955 = .ok (.iload_n 3, 1) := by decide +kernel
theorem dLaw_956 : decode code 956 = .ok (.iconst 1, 1) := by decide +kernel
theorem dLaw_957 : decode code 957 = .ok (.iadd, 1) := by decide +kernel
theorem dLaw_958 : decode code 958 = .ok (.iaload, 1) := by decide +kernel
theorem dLaw_959 : decode code 959 = .ok (.aload_n 0, 1) := by decide +kernel
theorem dLaw_960 : decode code 960 = .ok (.iload_n 3, 1) := by decide +kernel
theorem dLaw_961 : decode code 961 = .ok (.iconst 2, 1) := by decide +kernel
theorem dLaw_962 : decode code 962 = .ok (.iadd, 1) := by decide +kernel
theorem dLaw_963 : decode code 963 = .ok (.iaload, 1) := by decide +kernel
theorem dLaw_964 : decode code 964 = .ok (.invokevirtual 102, 3) := by decide +kernel
theorem dLaw_967 : decode code 967 = .ok (.pop, 1) := by decide +kernel
theorem dLaw_968 : decode code 968 = .ok (.goto 1036, 3) := by decide +kernel
theorem dLaw_971 : decode code 971 = .ok (.aload_n 1, 1) := by decide +kernel
theorem dLaw_972 : decode code 972 = .ok (.aload_n 0, 1) := by decide +kernel
theorem dLaw_973 : decode code 973 = .ok (.iload_n 3, 1) := by decide +kernel
theorem dLaw_974 : decode code 974 = .ok (.iconst 1, 1) := by decide +kernel
theorem dLaw_975 : decode code 975 = .ok (.iadd, 1) := by decide +kernel
theorem dLaw_976 : decode code 976 = .ok (.iaload, 1) := by decide +kernel
theorem dLaw_977 : decode code 977 = .ok (.aload_n 0, 1) := by decide +kernel
theorem dLaw_978 : decode code 978 = .ok (.iload_n 3, 1) := by decide +kernel
theorem dLaw_979 : decode code 979 = .ok (.iconst 2, 1) := by decide +kernel
theorem dLaw_980 : decode code 980 = .ok (.iadd, 1) := by decide +kernel
theorem dLaw_981 : decode code 981 = .ok (.iaload, 1) := by decide +kernel
theorem dLaw_982 : decode code 982 = .ok (.aload_n 0, 1) := by decide +kernel
theorem dLaw_983 : decode code 983 = .ok (.iload_n 3, 1) := by decide +kernel
theorem dLaw_984 : decode code 984 = .ok (.iconst 3, 1) := by decide +kernel
theorem dLaw_985 : decode code 985 = .ok (.iadd, 1) := by decide +kernel
theorem dLaw_986 : decode code 986 = .ok (.iaload, 1) := by decide +kernel
theorem dLaw_987 : decode code 987 = .ok (.invokevirtual 103, 3) := by decide +kernel
theorem dLaw_990 : decode code 990 = .ok (.pop, 1) := by decide +kernel
theorem dLaw_991 : decode code 991 = .ok (.aload_n 2, 1) := by decide +kernel
theorem dLaw_992 : decode code 992 = .ok (.aload_n 0, 1) := by decide +kernel
theorem dLaw_993 : decode code 993 = .ok (.iload_n 3, 1) := by decide +kernel
theorem dLaw_994 : decode code 994 = .ok (.iconst 1, 1) := by decide +kernel
theorem dLaw_995 : decode code 995 = .ok (.iadd, 1) := by decide +kernel
theorem dLaw_996 : decode code 996 = .ok (.iaload, 1) := by decide +kernel
theorem dLaw_997 : decode code 997 = .ok (.aload_n 0, 1) := by decide +kernel
theorem dLaw_998 : decode code 998 = .ok (.iload_n 3, 1) := by decide +kernel
theorem dLaw_999 : decode code 999 = .ok (.iconst 2, 1) := by decide +kernel
theorem dLaw_1000 : decode code 1000 = .ok (.iadd, 1) := by decide +kernel
theorem dLaw_1001 : decode code 1001 = .ok (.iaload, 1) := by decide +kernel
theorem dLaw_1002 : decode code 1002 = .ok (.aload_n 0, 1) := by decide +kernel
theorem dLaw_1003 : decode code 1003 = .ok (.iload_n 3, 1) := by decide +kernel
theorem dLaw_1004 : decode code 1004 = .ok (.iconst 3, 1) := by decide +kernel
theorem dLaw_1005 : decode code 1005 = .ok (.iadd, 1) := by decide +kernel
theorem dLaw_1006 : decode code 1006 = .ok (.iaload, 1) := by decide +kernel
theorem dLaw_1007 : decode code 1007 = .ok (.invokevirtual 106, 3) := by decide +kernel
theorem dLaw_1010 : decode code 1010 = .ok (.pop, 1) := by decide +kernel
theorem dLaw_1011 : decode code 1011 = .ok (.goto 993, 3) := by decide +kernel
theorem dLaw_1014 : decode code 1014 = .ok (.aload_n 1, 1) := by decide +kernel
theorem dLaw_1015 : decode code 1015 = .ok (.aload_n 0, 1) := by decide +kernel
theorem dLaw_1016 : decode code 1016 = .ok (.iload_n 3, 1) := by decide +kernel
theorem dLaw_1017 : decode code 1017 = .ok (.iconst 1, 1) := by decide +kernel
theorem dLaw_1018 : decode code 1018 = .ok (.iadd, 1) := by decide +kernel
theorem dLaw_1019 : decode code 1019 = .ok (.iaload, 1) := by decide +kernel
theorem dLaw_1020 : decode code 1020 = .ok (.aload_n 0, 1) := by decide +kernel
theorem dLaw_1021 : decode code 1021 = .ok (.iload_n 3, 1) := by decide +kernel
theorem dLaw_1022 : decode code 1022 = .ok (.iconst 2, 1) := by decide +kernel
theorem dLaw_1023 : decode code 1023 = .ok (.iadd, 1) := by decide +kernel
theorem dLaw_1024 : decode code 1024 = .ok (.iaload, 1) := by decide +kernel
theorem dLaw_1025 : decode code 1025 = .ok (.aload_n 0, 1) := by decide +kernel
theorem dLaw_1026 : decode code 1026 = .ok (.iload_n 3, 1) := by decide +kernel
theorem dLaw_1027 : decode code 1027 = .ok (.iconst 3, 1) := by decide +kernel
theorem dLaw_1028 : decode code 1028 = .ok (.iadd, 1) := by decide +kernel
theorem dLaw_1029 : decode code 1029 = .ok (.iaload, 1) := by decide +kernel
theorem dLaw_1030 : decode code 1030 = .ok (.invokevirtual 107, 3) := by decide +kernel
theorem dLaw_1033 : decode code 1033 = .ok (.pop, 1) := by decide +kernel
theorem dLaw_1034 : decode code 1034 = .ok (.aload_n 2, 1) := by decide +kernel
theorem dLaw_1035 : decode code 1035 = .ok (.aload_n 0, 1) := by decide +kernel
theorem dLaw_1036 : decode code 1036 = .ok (.iload_n 3, 1) := by decide +kernel
theorem dLaw_1037 : decode code 1037 = .ok (.iconst 1, 1) := by decide +kernel
theorem dLaw_1038 : decode code 1038 = .ok (.iadd, 1) := by decide +kernel
theorem dLaw_1039 : decode code 1039 = .ok (.iaload, 1) := by decide +kernel
theorem dLaw_1040 : decode code 1040 = .ok (.aload_n 0, 1) := by decide +kernel
theorem dLaw_1041 : decode code 1041 = .ok (.iload_n 3, 1) := by decide +kernel
theorem dLaw_1042 : decode code 1042 = .ok (.iconst 2, 1) := by decide +kernel
theorem dLaw_1043 : decode code 1043 = .ok (.iadd, 1) := by decide +kernel
theorem dLaw_1044 : decode code 1044 = .ok (.iaload, 1) := by decide +kernel
theorem dLaw_1045 : decode code 1045 = .ok (.aload_n 0, 1) := by decide +kernel
theorem dLaw_1046 : decode code 1046 = .ok (.iload_n 3, 1) := by decide +kernel
theorem dLaw_1047 : decode code 1047 = .ok (.iconst 3, 1) := by decide +kernel
theorem dLaw_1048 : decode code 1048 = .ok (.iadd, 1) := by decide +kernel
theorem dLaw_1049 : decode code 1049 = .ok (.iaload, 1) := by decide +kernel
theorem dLaw_1050 : decode code 1050 = .ok (.invokevirtual 110, 3) := by decide +kernel
theorem dLaw_1053 : decode code 1053 = .ok (.pop, 1) := by decide +kernel
theorem dLaw_1054 : decode code 1054 = .ok (.goto 950, 3) := by decide +kernel
theorem dLaw_1057 : decode code 1057 = .ok (.aload_n 1, 1) := by decide +kernel
theorem dLaw_1058 : decode code 1058 = .ok (.aload_n 0, 1) := by decide +kernel
theorem dLaw_1059 : decode code 1059 = .ok (.iload_n 3, 1) := by decide +kernel
theorem dLaw_1060 : decode code 1060 = .ok (.iconst 1, 1) := by decide +kernel
theorem dLaw_1061 : decode code 1061 = .ok (.iadd, 1) := by decide +kernel
theorem dLaw_1062 : decode code 1062 = .ok (.iaload, 1) := by decide +kernel
theorem dLaw_1063 : decode code 1063 = .ok (.aload_n 0, 1) := by decide +kernel
theorem dLaw_1064 : decode code 1064 = .ok (.iload_n 3, 1) := by decide +kernel
theorem dLaw_1065 : decode code 1065 = .ok (.iconst 2, 1) := by decide +kernel
theorem dLaw_1066 : decode code 1066 = .ok (.iadd, 1) := by decide +kernel
theorem dLaw_1067 : decode code 1067 = .ok (.iaload, 1) := by decide +kernel
theorem dLaw_1068 : decode code 1068 = .ok (.aload_n 0, 1) := by decide +kernel
theorem dLaw_1069 : decode code 1069 = .ok (.iload_n 3, 1) := by decide +kernel
theorem dLaw_1070 : decode code 1070 = .ok (.iconst 3, 1) := by decide +kernel
theorem dLaw_1071 : decode code 1071 = .ok (.iadd, 1) := by decide +kernel
theorem dLaw_1072 : decode code 1072 = .ok (.iaload, 1) := by decide +kernel
theorem dLaw_1073 : decode code 1073 = .ok (.invokevirtual 111, 3) := by decide +kernel
theorem dLaw_1076 : decode code 1076 = .ok (.pop, 1) := by decide +kernel
theorem dLaw_1077 : decode code 1077 = .ok (.aload_n 2, 1) := by decide +kernel
theorem dLaw_1078 : decode code 1078 = .ok (.aload_n 0, 1) := by decide +kernel
theorem dLaw_1079 : decode code 1079 = .ok (.iload_n 3, 1) := by decide +kernel
theorem dLaw_1080 : decode code 1080 = .ok (.iconst 1, 1) := by decide +kernel
theorem dLaw_1081 : decode code 1081 = .ok (.iadd, 1) := by decide +kernel
theorem dLaw_1082 : decode code 1082 = .ok (.iaload, 1) := by decide +kernel
theorem dLaw_1083 : decode code 1083 = .ok (.aload_n 0, 1) := by decide +kernel
theorem dLaw_1084 : decode code 1084 = .ok (.iload_n 3, 1) := by decide +kernel
theorem dLaw_1085 : decode code 1085 = .ok (.iconst 2, 1) := by decide +kernel
theorem dLaw_1086 : decode code 1086 = .ok (.iadd, 1) := by decide +kernel
theorem dLaw_1087 : decode code 1087 = .ok (.iaload, 1) := by decide +kernel
theorem dLaw_1088 : decode code 1088 = .ok (.aload_n 0, 1) := by decide +kernel
theorem dLaw_1089 : decode code 1089 = .ok (.iload_n 3, 1) := by decide +kernel
theorem dLaw_1090 : decode code 1090 = .ok (.iconst 3, 1) := by decide +kernel
theorem dLaw_1091 : decode code 1091 = .ok (.iadd, 1) := by decide +kernel
theorem dLaw_1092 : decode code 1092 = .ok (.iaload, 1) := by decide +kernel
theorem dLaw_1093 : decode code 1093 = .ok (.invokevirtual 114, 3) := by decide +kernel
theorem dLaw_1096 : decode code 1096 = .ok (.pop, 1) := by decide +kernel
theorem dLaw_1097 : decode code 1097 = .ok (.goto 907, 3) := by decide +kernel
theorem dLaw_1100 : decode code 1100 = .ok (.aload_n 1, 1) := by decide +kernel
theorem dLaw_1101 : decode code 1101 = .ok (.aload_n 0, 1) := by decide +kernel
theorem dLaw_1102 : decode code 1102 = .ok (.iload_n 3, 1) := by decide +kernel
theorem dLaw_1103 : decode code 1103 = .ok (.iconst 1, 1) := by decide +kernel
theorem dLaw_1104 : decode code 1104 = .ok (.iadd, 1) := by decide +kernel
theorem dLaw_1105 : decode code 1105 = .ok (.iaload, 1) := by decide +kernel
theorem dLaw_1106 : decode code 1106 = .ok (.aload_n 0, 1) := by decide +kernel
theorem dLaw_1107 : decode code 1107 = .ok (.iload_n 3, 1) := by decide +kernel
theorem dLaw_1108 : decode code 1108 = .ok (.iconst 2, 1) := by decide +kernel
theorem dLaw_1109 : decode code 1109 = .ok (.iadd, 1) := by decide +kernel
theorem dLaw_1110 : decode code 1110 = .ok (.iaload, 1) := by decide +kernel
theorem dLaw_1111 : decode code 1111 = .ok (.aload_n 0, 1) := by decide +kernel
theorem dLaw_1112 : decode code 1112 = .ok (.iload_n 3, 1) := by decide +kernel
theorem dLaw_1113 : decode code 1113 = .ok (.iconst 3, 1) := by decide +kernel
theorem dLaw_1114 : decode code 1114 = .ok (.iadd, 1) := by decide +kernel
theorem dLaw_1115 : decode code 1115 = .ok (.iaload, 1) := by decide +kernel
theorem dLaw_1116 : decode code 1116 = .ok (.aload_n 0, 1) := by decide +kernel
theorem dLaw_1117 : decode code 1117 = .ok (.iload_n 3, 1) := by decide +kernel
theorem dLaw_1118 : decode code 1118 = .ok (.iconst 4, 1) := by decide +kernel
theorem dLaw_1119 : decode code 1119 = .ok (.iadd, 1) := by decide +kernel
theorem dLaw_1120 : decode code 1120 = .ok (.iaload, 1) := by decide +kernel
theorem dLaw_1121 : decode code 1121 = .ok (.invokevirtual 115, 3) := by decide +kernel
theorem dLaw_1124 : decode code 1124 = .ok (.pop, 1) := by decide +kernel
theorem dLaw_1125 : decode code 1125 = .ok (.aload_n 2, 1) := by decide +kernel
theorem dLaw_1126 : decode code 1126 = .ok (.aload_n 0, 1) := by decide +kernel
theorem dLaw_1127 : decode code 1127 = .ok (.iload_n 3, 1) := by decide +kernel
theorem dLaw_1128 : decode code 1128 = .ok (.iconst 1, 1) := by decide +kernel
theorem dLaw_1129 : decode code 1129 = .ok (.iadd, 1) := by decide +kernel
theorem dLaw_1130 : decode code 1130 = .ok (.iaload, 1) := by decide +kernel
theorem dLaw_1131 : decode code 1131 = .ok (.aload_n 0, 1) := by decide +kernel
theorem dLaw_1132 : decode code 1132 = .ok (.iload_n 3, 1) := by decide +kernel
theorem dLaw_1133 : decode code 1133 = .ok (.iconst 2, 1) := by decide +kernel
theorem dLaw_1134 : decode code 1134 = .ok (.iadd, 1) := by decide +kernel
theorem dLaw_1135 : decode code 1135 = .ok (.iaload, 1) := by decide +kernel
theorem dLaw_1136 : decode code 1136 = .ok (.aload_n 0, 1) := by decide +kernel
theorem dLaw_1137 : decode code 1137 = .ok (.iload_n 3, 1) := by decide +kernel
theorem dLaw_1138 : decode code 1138 = .ok (.iconst 3, 1) := by decide +kernel
theorem dLaw_1139 : decode code 1139 = .ok (.iadd, 1) := by decide +kernel
theorem dLaw_1140 : decode code 1140 = .ok (.iaload, 1) := by decide +kernel
theorem dLaw_1141 : decode code 1141 = .ok (.aload_n 0, 1) := by decide +kernel
theorem dLaw_1142 : decode code 1142 = .ok (.iload_n 3, 1) := by decide +kernel
theorem dLaw_1143 : decode code 1143 = .ok (.iconst 4, 1) := by decide +kernel
theorem dLaw_1144 : decode code 1144 = .ok (.iadd, 1) := by decide +kernel
theorem dLaw_1145 : decode code 1145 = .ok (.iaload, 1) := by decide +kernel
theorem dLaw_1146 : decode code 1146 = .ok (.invokevirtual 119, 3) := by decide +kernel
theorem dLaw_1149 : decode code 1149 = .ok (.pop, 1) := by decide +kernel
theorem dLaw_1150 : decode code 1150 = .ok (.goto 854, 3) := by decide +kernel
theorem dLaw_1153 : decode code 1153 = .ok (.aload_n 1, 1) := by decide +kernel
theorem dLaw_1154 : decode code 1154 = .ok (.invokevirtual 120, 3) := by decide +kernel
theorem dLaw_1157 : decode code 1157 = .ok (.pop, 1) := by decide +kernel
theorem dLaw_1158 : decode code 1158 = .ok (.aload_n 2, 1) := by decide +kernel
theorem dLaw_1159 : decode code 1159 = .ok (.invokevirtual 123, 3) := by decide +kernel
theorem dLaw_1162 : decode code 1162 = .ok (.pop, 1) := by decide +kernel
theorem dLaw_1163 : decode code 1163 = .ok (.goto 841, 3) := by decide +kernel
theorem dLaw_1166 : decode code 1166 = .ok (.aload_n 1, 1) := by decide +kernel
theorem dLaw_1167 : decode code 1167 = .ok (.aload_n 0, 1) := by decide +kernel
theorem dLaw_1168 : decode code 1168 = .ok (.iload_n 3, 1) := by decide +kernel
theorem dLaw_1169 : decode code 1169 = .ok (.iconst 1, 1) := by decide +kernel
theorem dLaw_1170 : decode code 1170 = .ok (.iadd, 1) := by decide +kernel
theorem dLaw_1171 : decode code 1171 = .ok (.iaload, 1) := by decide +kernel
theorem dLaw_1172 : decode code 1172 = .ok (.aload_n 0, 1) := by decide +kernel
theorem dLaw_1173 : decode code 1173 = .ok (.iload_n 3, 1) := by decide +kernel
theorem dLaw_1174 : decode code 1174 = .ok (.iconst 2, 1) := by decide +kernel
theorem dLaw_1175 : decode code 1175 = .ok (.iadd, 1) := by decide +kernel
theorem dLaw_1176 : decode code 1176 = .ok (.iaload, 1) := by decide +kernel
theorem dLaw_1177 : decode code 1177 = .ok (.aload_n 0, 1) := by decide +kernel
theorem dLaw_1178 : decode code 1178 = .ok (.iload_n 3, 1) := by decide +kernel
theorem dLaw_1179 : decode code 1179 = .ok (.iconst 3, 1) := by decide +kernel
theorem dLaw_1180 : decode code 1180 = .ok (.iadd, 1) := by decide +kernel
theorem dLaw_1181 : decode code 1181 = .ok (.iaload, 1) := by decide +kernel
theorem dLaw_1182 : decode code 1182 = .ok (.invokevirtual 124, 3) := by decide +kernel
theorem dLaw_1185 : decode code 1185 = .ok (.pop, 1) := by decide +kernel
theorem dLaw_1186 : decode code 1186 = .ok (.aload_n 2, 1) := by decide +kernel
theorem dLaw_1187 : decode code 1187 = .ok (.aload_n 0, 1) := by decide +kernel
theorem dLaw_1188 : decode code 1188 = .ok (.iload_n 3, 1) := by decide +kernel
theorem dLaw_1189 : decode code 1189 = .ok (.iconst 1, 1) := by decide +kernel
theorem dLaw_1190 : decode code 1190 = .ok (.iadd, 1) := by decide +kernel
theorem dLaw_1191 : decode code 1191 = .ok (.iaload, 1) := by decide +kernel
theorem dLaw_1192 : decode code 1192 = .ok (.aload_n 0, 1) := by decide +kernel
theorem dLaw_1193 : decode code 1193 = .ok (.iload_n 3, 1) := by decide +kernel
theorem dLaw_1194 : decode code 1194 = .ok (.iconst 2, 1) := by decide +kernel
theorem dLaw_1195 : decode code 1195 = .ok (.iadd, 1) := by decide +kernel
theorem dLaw_1196 : decode code 1196 = .ok (.iaload, 1) := by decide +kernel
theorem dLaw_1197 : decode code 1197 = .ok (.aload_n 0, 1) := by decide +kernel
theorem dLaw_1198 : decode code 1198 = .ok (.iload_n 3, 1) := by decide +kernel
theorem dLaw_1199 : decode code 1199 = .ok (.iconst 3, 1) := by decide +kernel
theorem dLaw_1200 : decode code 1200 = .ok (.iadd, 1) := by decide +kernel
theorem dLaw_1201 : decode code 1201 = .ok (.iaload, 1) := by decide +kernel
theorem dLaw_1202 : decode code 1202 = .ok (.invokevirtual 127, 3) := by decide +kernel
theorem dLaw_1205 : decode code 1205 = .ok (.pop, 1) := by decide +kernel
theorem dLaw_1206 : decode code 1206 = .ok (.goto 798, 3) := by decide +kernel
theorem dLaw_1209 : decode code 1209 = .ok (.aload_n 1, 1) := by decide +kernel
theorem dLaw_1210 : decode code 1210 = .ok (.aload_n 0, 1) := by decide +kernel
theorem dLaw_1211 : decode code 1211 = .ok (.iload_n 3, 1) := by decide +kernel
theorem dLaw_1212 : decode code 1212 = .ok (.iconst 1, 1) := by decide +kernel
theorem dLaw_1213 : decode code 1213 = .ok (.iadd, 1) := by decide +kernel
theorem dLaw_1214 : decode code 1214 = .ok (.iaload, 1) := by decide +kernel
theorem dLaw_1215 : decode code 1215 = .ok (.aload_n 0, 1) := by decide +kernel
theorem dLaw_1216 : decode code 1216 = .ok (.iload_n 3, 1) := by decide +kernel
theorem dLaw_1217 : decode code 1217 = .ok (.iconst 2, 1) := by decide +kernel
theorem dLaw_1218 : decode code 1218 = .ok (.iadd, 1) := by decide +kernel
theorem dLaw_1219 : decode code 1219 = .ok (.iaload, 1) := by decide +kernel
theorem dLaw_1220 : decode code 1220 = .ok (.aload_n 0, 1) := by decide +kernel
theorem dLaw_1221 : decode code 1221 = .ok (.iload_n 3, 1) := by decide +kernel
theorem dLaw_1222 : decode code 1222 = .ok (.iconst 3, 1) := by decide +kernel
theorem dLaw_1223 : decode code 1223 = .ok (.iadd, 1) := by decide +kernel
theorem dLaw_1224 : decode code 1224 = .ok (.iaload, 1) := by decide +kernel
theorem dLaw_1225 : decode code 1225 = .ok (.invokevirtual 128, 3) := by decide +kernel
theorem dLaw_1228 : decode code 1228 = .ok (.pop, 1) := by decide +kernel
theorem dLaw_1229 : decode code 1229 = .ok (.aload_n 2, 1) := by decide +kernel
theorem dLaw_1230 : decode code 1230 = .ok (.aload_n 0, 1) := by decide +kernel
theorem dLaw_1231 : decode code 1231 = .ok (.iload_n 3, 1) := by decide +kernel
theorem dLaw_1232 : decode code 1232 = .ok (.iconst 1, 1) := by decide +kernel
theorem dLaw_1233 : decode code 1233 = .ok (.iadd, 1) := by decide +kernel
theorem dLaw_1234 : decode code 1234 = .ok (.iaload, 1) := by decide +kernel
theorem dLaw_1235 : decode code 1235 = .ok (.aload_n 0, 1) := by decide +kernel
theorem dLaw_1236 : decode code 1236 = .ok (.iload_n 3, 1) := by decide +kernel
theorem dLaw_1237 : decode code 1237 = .ok (.iconst 2, 1) := by decide +kernel
theorem dLaw_1238 : decode code 1238 = .ok (.iadd, 1) := by decide +kernel
theorem dLaw_1239 : decode code 1239 = .ok (.iaload, 1) := by decide +kernel
theorem dLaw_1240 : decode code 1240 = .ok (.aload_n 0, 1) := by decide +kernel
theorem dLaw_1241 : decode code 1241 = .ok (.iload_n 3, 1) := by decide +kernel
theorem dLaw_1242 : decode code 1242 = .ok (.iconst 3, 1) := by decide +kernel
theorem dLaw_1243 : decode code 1243 = .ok (.iadd, 1) := by decide +kernel
theorem dLaw_1244 : decode code 1244 = .ok (.iaload, 1) := by decide +kernel
theorem dLaw_1245 : decode code 1245 = .ok (.invokevirtual 131, 3) := by decide +kernel
theorem dLaw_1248 : decode code 1248 = .ok (.pop, 1) := by decide +kernel
theorem dLaw_1249 : decode code 1249 = .ok (.goto 755, 3) := by decide +kernel
theorem dLaw_1252 : decode code 1252 = .ok (.aload_n 1, 1) := by decide +kernel
theorem dLaw_1253 : decode code 1253 = .ok (.aload_n 0, 1) := by decide +kernel
theorem dLaw_1254 : decode code 1254 = .ok (.iload_n 3, 1) := by decide +kernel
theorem dLaw_1255 : decode code 1255 = .ok (.iconst 1, 1) := by decide +kernel
theorem dLaw_1256 : decode code 1256 = .ok (.iadd, 1) := by decide +kernel
theorem dLaw_1257 : decode code 1257 = .ok (.iaload, 1) := by decide +kernel
theorem dLaw_1258 : decode code 1258 = .ok (.aload_n 0, 1) := by decide +kernel
theorem dLaw_1259 : decode code 1259 = .ok (.iload_n 3, 1) := by decide +kernel
theorem dLaw_1260 : decode code 1260 = .ok (.iconst 2, 1) := by decide +kernel
theorem dLaw_1261 : decode code 1261 = .ok (.iadd, 1) := by decide +kernel
theorem dLaw_1262 : decode code 1262 = .ok (.iaload, 1) := by decide +kernel
theorem dLaw_1263 : decode code 1263 = .ok (.aload_n 0, 1) := by decide +kernel
theorem dLaw_1264 : decode code 1264 = .ok (.iload_n 3, 1) := by decide +kernel
theorem dLaw_1265 : decode code 1265 = .ok (.iconst 3, 1) := by decide +kernel
theorem dLaw_1266 : decode code 1266 = .ok (.iadd, 1) := by decide +kernel
theorem dLaw_1267 : decode code 1267 = .ok (.iaload, 1) := by decide +kernel
theorem dLaw_1268 : decode code 1268 = .ok (.invokevirtual 132, 3) := by decide +kernel
theorem dLaw_1271 : decode code 1271 = .ok (.pop, 1) := by decide +kernel
theorem dLaw_1272 : decode code 1272 = .ok (.aload_n 2, 1) := by decide +kernel
theorem dLaw_1273 : decode code 1273 = .ok (.aload_n 0, 1) := by decide +kernel
theorem dLaw_1274 : decode code 1274 = .ok (.iload_n 3, 1) := by decide +kernel
theorem dLaw_1275 : decode code 1275 = .ok (.iconst 1, 1) := by decide +kernel
theorem dLaw_1276 : decode code 1276 = .ok (.iadd, 1) := by decide +kernel
theorem dLaw_1277 : decode code 1277 = .ok (.iaload, 1) := by decide +kernel
theorem dLaw_1278 : decode code 1278 = .ok (.aload_n 0, 1) := by decide +kernel
theorem dLaw_1279 : decode code 1279 = .ok (.iload_n 3, 1) := by decide +kernel
theorem dLaw_1280 : decode code 1280 = .ok (.iconst 2, 1) := by decide +kernel
theorem dLaw_1281 : decode code 1281 = .ok (.iadd, 1) := by decide +kernel
theorem dLaw_1282 : decode code 1282 = .ok (.iaload, 1) := by decide +kernel
theorem dLaw_1283 : decode code 1283 = .ok (.aload_n 0, 1) := by decide +kernel
theorem dLaw_1284 : decode code 1284 = .ok (.iload_n 3, 1) := by decide +kernel
theorem dLaw_1285 : decode code 1285 = .ok (.iconst 3, 1) := by decide +kernel
theorem dLaw_1286 : decode code 1286 = .ok (.iadd, 1) := by decide +kernel
theorem dLaw_1287 : decode code 1287 = .ok (.iaload, 1) := by decide +kernel
theorem dLaw_1288 : decode code 1288 = .ok (.invokevirtual 135, 3) := by decide +kernel
theorem dLaw_1291 : decode code 1291 = .ok (.pop, 1) := by decide +kernel
theorem dLaw_1292 : decode code 1292 = .ok (.goto 712, 3) := by decide +kernel
theorem dLaw_1295 : decode code 1295 = .ok (.aload_n 1, 1) := by decide +kernel
theorem dLaw_1296 : decode code 1296 = .ok (.aload_n 0, 1) := by decide +kernel
theorem dLaw_1297 : decode code 1297 = .ok (.iload_n 3, 1) := by decide +kernel
theorem dLaw_1298 : decode code 1298 = .ok (.iconst 1, 1) := by decide +kernel
theorem dLaw_1299 : decode code 1299 = .ok (.iadd, 1) := by decide +kernel
theorem dLaw_1300 : decode code 1300 = .ok (.iaload, 1) := by decide +kernel
theorem dLaw_1301 : decode code 1301 = .ok (.aload_n 0, 1) := by decide +kernel
theorem dLaw_1302 : decode code 1302 = .ok (.iload_n 3, 1) := by decide +kernel
theorem dLaw_1303 : decode code 1303 = .ok (.iconst 2, 1) := by decide +kernel
theorem dLaw_1304 : decode code 1304 = .ok (.iadd, 1) := by decide +kernel
theorem dLaw_1305 : decode code 1305 = .ok (.iaload, 1) := by decide +kernel
theorem dLaw_1306 : decode code 1306 = .ok (.aload_n 0, 1) := by decide +kernel
theorem dLaw_1307 : decode code 1307 = .ok (.iload_n 3, 1) := by decide +kernel
theorem dLaw_1308 : decode code 1308 = .ok (.iconst 3, 1) := by decide +kernel
theorem dLaw_1309 : decode code 1309 = .ok (.iadd, 1) := by decide +kernel
theorem dLaw_1310 : decode code 1310 = .ok (.iaload, 1) := by decide +kernel
theorem dLaw_1311 : decode code 1311 = .ok (.aload_n 0, 1) := by decide +kernel
theorem dLaw_1312 : decode code 1312 = .ok (.iload_n 3, 1) := by decide +kernel
theorem dLaw_1313 : decode code 1313 = .ok (.iconst 4, 1) := by decide +kernel
theorem dLaw_1314 : decode code 1314 = .ok (.iadd, 1) := by decide +kernel
theorem dLaw_1315 : decode code 1315 = .ok (.iaload, 1) := by decide +kernel
theorem dLaw_1316 : decode code 1316 = .ok (.aload_n 0, 1) := by decide +kernel
theorem dLaw_1317 : decode code 1317 = .ok (.iload_n 3, 1) := by decide +kernel
theorem dLaw_1318 : decode code 1318 = .ok (.iconst 5, 1) := by decide +kernel
theorem dLaw_1319 : decode code 1319 = .ok (.iadd, 1) := by decide +kernel
theorem dLaw_1320 : decode code 1320 = .ok (.iaload, 1) := by decide +kernel
theorem dLaw_1321 : decode code 1321 = .ok (.invokevirtual 136, 3) := by decide +kernel
theorem dLaw_1324 : decode code 1324 = .ok (.pop, 1) := by decide +kernel
theorem dLaw_1325 : decode code 1325 = .ok (.aload_n 2, 1) := by decide +kernel
theorem dLaw_1326 : decode code 1326 = .ok (.aload_n 0, 1) := by decide +kernel
theorem dLaw_1327 : decode code 1327 = .ok (.iload_n 3, 1) := by decide +kernel
theorem dLaw_1328 : decode code 1328 = .ok (.iconst 1, 1) := by decide +kernel
theorem dLaw_1329 : decode code 1329 = .ok (.iadd, 1) := by decide +kernel
theorem dLaw_1330 : decode code 1330 = .ok (.iaload, 1) := by decide +kernel
theorem dLaw_1331 : decode code 1331 = .ok (.aload_n 0, 1) := by decide +kernel
theorem dLaw_1332 : decode code 1332 = .ok (.iload_n 3, 1) := by decide +kernel
theorem dLaw_1333 : decode code 1333 = .ok (.iconst 2, 1) := by decide +kernel
theorem dLaw_1334 : decode code 1334 = .ok (.iadd, 1) := by decide +kernel
theorem dLaw_1335 : decode code 1335 = .ok (.iaload, 1) := by decide +kernel
theorem dLaw_1336 : decode code 1336 = .ok (.aload_n 0, 1) := by decide +kernel
theorem dLaw_1337 : decode code 1337 = .ok (.iload_n 3, 1) := by decide +kernel
theorem dLaw_1338 : decode code 1338 = .ok (.iconst 3, 1) := by decide +kernel
theorem dLaw_1339 : decode code 1339 = .ok (.iadd, 1) := by decide +kernel
theorem dLaw_1340 : decode code 1340 = .ok (.iaload, 1) := by decide +kernel
theorem dLaw_1341 : decode code 1341 = .ok (.aload_n 0, 1) := by decide +kernel
theorem dLaw_1342 : decode code 1342 = .ok (.iload_n 3, 1) := by decide +kernel
theorem dLaw_1343 : decode code 1343 = .ok (.iconst 4, 1) := by decide +kernel
theorem dLaw_1344 : decode code 1344 = .ok (.iadd, 1) := by decide +kernel
theorem dLaw_1345 : decode code 1345 = .ok (.iaload, 1) := by decide +kernel
theorem dLaw_1346 : decode code 1346 = .ok (.aload_n 0, 1) := by decide +kernel
theorem dLaw_1347 : decode code 1347 = .ok (.iload_n 3, 1) := by decide +kernel
theorem dLaw_1348 : decode code 1348 = .ok (.iconst 5, 1) := by decide +kernel
theorem dLaw_1349 : decode code 1349 = .ok (.iadd, 1) := by decide +kernel
theorem dLaw_1350 : decode code 1350 = .ok (.iaload, 1) := by decide +kernel
theorem dLaw_1351 : decode code 1351 = .ok (.invokevirtual 139, 3) := by decide +kernel
theorem dLaw_1354 : decode code 1354 = .ok (.pop, 1) := by decide +kernel
theorem dLaw_1355 : decode code 1355 = .ok (.goto 649, 3) := by decide +kernel
theorem dLaw_1358 : decode code 1358 = .ok (.aload_n 1, 1) := by decide +kernel
theorem dLaw_1359 : decode code 1359 = .ok (.aload_n 0, 1) := by decide +kernel
theorem dLaw_1360 : decode code 1360 = .ok (.iload_n 3, 1) := by decide +kernel
theorem dLaw_1361 : decode code 1361 = .ok (.iconst 1, 1) := by decide +kernel
theorem dLaw_1362 : decode code 1362 = .ok (.iadd, 1) := by decide +kernel
theorem dLaw_1363 : decode code 1363 = .ok (.iaload, 1) := by decide +kernel
theorem dLaw_1364 : decode code 1364 = .ok (.aload_n 0, 1) := by decide +kernel
theorem dLaw_1365 : decode code 1365 = .ok (.iload_n 3, 1) := by decide +kernel
theorem dLaw_1366 : decode code 1366 = .ok (.iconst 2, 1) := by decide +kernel
theorem dLaw_1367 : decode code 1367 = .ok (.iadd, 1) := by decide +kernel
theorem dLaw_1368 : decode code 1368 = .ok (.iaload, 1) := by decide +kernel
theorem dLaw_1369 : decode code 1369 = .ok (.aload_n 0, 1) := by decide +kernel
theorem dLaw_1370 : decode code 1370 = .ok (.iload_n 3, 1) := by decide +kernel
theorem dLaw_1371 : decode code 1371 = .ok (.iconst 3, 1) := by decide +kernel
theorem dLaw_1372 : decode code 1372 = .ok (.iadd, 1) := by decide +kernel
theorem dLaw_1373 : decode code 1373 = .ok (.iaload, 1) := by decide +kernel
theorem dLaw_1374 : decode code 1374 = .ok (.aload_n 0, 1) := by decide +kernel
theorem dLaw_1375 : decode code 1375 = .ok (.iload_n 3, 1) := by decide +kernel
theorem dLaw_1376 : decode code 1376 = .ok (.iconst 4, 1) := by decide +kernel
theorem dLaw_1377 : decode code 1377 = .ok (.iadd, 1) := by decide +kernel
theorem dLaw_1378 : decode code 1378 = .ok (.iaload, 1) := by decide +kernel
theorem dLaw_1379 : decode code 1379 = .ok (.invokevirtual 140, 3) := by decide +kernel
theorem dLaw_1382 : decode code 1382 = .ok (.pop, 1) := by decide +kernel
theorem dLaw_1383 : decode code 1383 = .ok (.aload_n 2, 1) := by decide +kernel
theorem dLaw_1384 : decode code 1384 = .ok (.aload_n 0, 1) := by decide +kernel
theorem dLaw_1385 : decode code 1385 = .ok (.iload_n 3, 1) := by decide +kernel
theorem dLaw_1386 : decode code 1386 = .ok (.iconst 1, 1) := by decide +kernel
theorem dLaw_1387 : decode code 1387 = .ok (.iadd, 1) := by decide +kernel
theorem dLaw_1388 : decode code 1388 = .ok (.iaload, 1) := by decide +kernel
theorem dLaw_1389 : decode code 1389 = .ok (.aload_n 0, 1) := by decide +kernel
theorem dLaw_1390 : decode code 1390 = .ok (.iload_n 3, 1) := by decide +kernel
theorem dLaw_1391 : decode code 1391 = .ok (.iconst 2, 1) := by decide +kernel
theorem dLaw_1392 : decode code 1392 = .ok (.iadd, 1) := by decide +kernel
theorem dLaw_1393 : decode code 1393 = .ok (.iaload, 1) := by decide +kernel
theorem dLaw_1394 : decode code 1394 = .ok (.aload_n 0, 1) := by decide +kernel
theorem dLaw_1395 : decode code 1395 = .ok (.iload_n 3, 1) := by decide +kernel
theorem dLaw_1396 : decode code 1396 = .ok (.iconst 3, 1) := by decide +kernel
theorem dLaw_1397 : decode code 1397 = .ok (.iadd, 1) := by decide +kernel
theorem dLaw_1398 : decode code 1398 = .ok (.iaload, 1) := by decide +kernel
theorem dLaw_1399 : decode code 1399 = .ok (.aload_n 0, 1) := by decide +kernel
theorem dLaw_1400 : decode code 1400 = .ok (.iload_n 3, 1) := by decide +kernel
theorem dLaw_1401 : decode code 1401 = .ok (.iconst 4, 1) := by decide +kernel
theorem dLaw_1402 : decode code 1402 = .ok (.iadd, 1) := by decide +kernel
theorem dLaw_1403 : decode code 1403 = .ok (.iaload, 1) := by decide +kernel
theorem dLaw_1404 : decode code 1404 = .ok (.invokevirtual 143, 3) := by decide +kernel
theorem dLaw_1407 : decode code 1407 = .ok (.pop, 1) := by decide +kernel
theorem dLaw_1408 : decode code 1408 = .ok (.goto 596, 3) := by decide +kernel
theorem dLaw_1411 : decode code 1411 = .ok (.aload_n 1, 1) := by decide +kernel
theorem dLaw_1412 : decode code 1412 = .ok (.invokevirtual 144, 3) := by decide +kernel
theorem dLaw_1415 : decode code 1415 = .ok (.pop, 1) := by decide +kernel
theorem dLaw_1416 : decode code 1416 = .ok (.aload_n 2, 1) := by decide +kernel
theorem dLaw_1417 : decode code 1417 = .ok (.invokevirtual 147, 3) := by decide +kernel
theorem dLaw_1420 : decode code 1420 = .ok (.pop, 1) := by decide +kernel
theorem dLaw_1421 : decode code 1421 = .ok (.goto 583, 3) := by decide +kernel
theorem dLaw_1424 : decode code 1424 = .ok (.aload_n 1, 1) := by decide +kernel
theorem dLaw_1425 : decode code 1425 = .ok (.aload_n 0, 1) := by decide +kernel
theorem dLaw_1426 : decode code 1426 = .ok (.iload_n 3, 1) := by decide +kernel
theorem dLaw_1427 : decode code 1427 = .ok (.iconst 1, 1) := by decide +kernel
theorem dLaw_1428 : decode code 1428 = .ok (.iadd, 1) := by decide +kernel
theorem dLaw_1429 : decode code 1429 = .ok (.iaload, 1) := by decide +kernel
theorem dLaw_1430 : decode code 1430 = .ok (.invokevirtual 148, 3) := by decide +kernel
theorem dLaw_1433 : decode code 1433 = .ok (.pop, 1) := by decide +kernel
theorem dLaw_1434 : decode code 1434 = .ok (.aload_n 2, 1) := by decide +kernel
theorem dLaw_1435 : decode code 1435 = .ok (.aload_n 0, 1) := by decide +kernel
theorem dLaw_1436 : decode code 1436 = .ok (.iload_n 3, 1) := by decide +kernel
theorem dLaw_1437 : decode code 1437 = .ok (.iconst 1, 1) := by decide +kernel
theorem dLaw_1438 : decode code 1438 = .ok (.iadd, 1) := by decide +kernel
theorem dLaw_1439 : decode code 1439 = .ok (.iaload, 1) := by decide +kernel
theorem dLaw_1440 : decode code 1440 = .ok (.invokevirtual 151, 3) := by decide +kernel
theorem dLaw_1443 : decode code 1443 = .ok (.pop, 1) := by decide +kernel
theorem dLaw_1444 : decode code 1444 = .ok (.goto 560, 3) := by decide +kernel
theorem dLaw_1447 : decode code 1447 = .ok (.aload_n 1, 1) := by decide +kernel
theorem dLaw_1448 : decode code 1448 = .ok (.aload_n 0, 1) := by decide +kernel
theorem dLaw_1449 : decode code 1449 = .ok (.iload_n 3, 1) := by decide +kernel
theorem dLaw_1450 : decode code 1450 = .ok (.iconst 1, 1) := by decide +kernel
theorem dLaw_1451 : decode code 1451 = .ok (.iadd, 1) := by decide +kernel
theorem dLaw_1452 : decode code 1452 = .ok (.iaload, 1) := by decide +kernel
theorem dLaw_1453 : decode code 1453 = .ok (.aload_n 0, 1) := by decide +kernel
theorem dLaw_1454 : decode code 1454 = .ok (.iload_n 3, 1) := by decide +kernel
theorem dLaw_1455 : decode code 1455 = .ok (.iconst 2, 1) := by decide +kernel
theorem dLaw_1456 : decode code 1456 = .ok (.iadd, 1) := by decide +kernel
theorem dLaw_1457 : decode code 1457 = .ok (.iaload, 1) := by decide +kernel
theorem dLaw_1458 : decode code 1458 = .ok (.invokevirtual 152, 3) := by decide +kernel
theorem dLaw_1461 : decode code 1461 = .ok (.pop, 1) := by decide +kernel
theorem dLaw_1462 : decode code 1462 = .ok (.aload_n 2, 1) := by decide +kernel
theorem dLaw_1463 : decode code 1463 = .ok (.aload_n 0, 1) := by decide +kernel
theorem dLaw_1464 : decode code 1464 = .ok (.iload_n 3, 1) := by decide +kernel
theorem dLaw_1465 : decode code 1465 = .ok (.iconst 1, 1) := by decide +kernel
theorem dLaw_1466 : decode code 1466 = .ok (.iadd, 1) := by decide +kernel
theorem dLaw_1467 : decode code 1467 = .ok (.iaload, 1) := by decide +kernel
theorem dLaw_1468 : decode code 1468 = .ok (.aload_n 0, 1) := by decide +kernel
theorem dLaw_1469 : decode code 1469 = .ok (.iload_n 3, 1) := by decide +kernel
theorem dLaw_1470 : decode code 1470 = .ok (.iconst 2, 1) := by decide +kernel
theorem dLaw_1471 : decode code 1471 = .ok (.iadd, 1) := by decide +kernel
theorem dLaw_1472 : decode code 1472 = .ok (.iaload, 1) := by decide +kernel
theorem dLaw_1473 : decode code 1473 = .ok (.invokevirtual 155, 3) := by decide +kernel
theorem dLaw_1476 : decode code 1476 = .ok (.pop, 1) := by decide +kernel
theorem dLaw_1477 : decode code 1477 = .ok (.goto 527, 3) := by decide +kernel
theorem dLaw_1480 : decode code 1480 = .ok (.aload_n 1, 1) := by decide +kernel
theorem dLaw_1481 : decode code 1481 = .ok (.aload_n 0, 1) := by decide +kernel
theorem dLaw_1482 : decode code 1482 = .ok (.iload_n 3, 1) := by decide +kernel
theorem dLaw_1483 : decode code 1483 = .ok (.iconst 1, 1) := by decide +kernel
theorem dLaw_1484 : decode code 1484 = .ok (.iadd, 1) := by decide +kernel
theorem dLaw_1485 : decode code 1485 = .ok (.iaload, 1) := by decide +kernel
theorem dLaw_1486 : decode code 1486 = .ok (.invokevirtual 156, 3) := by decide +kernel
theorem dLaw_1489 : decode code 1489 = .ok (.pop, 1) := by decide +kernel
theorem dLaw_1490 : decode code 1490 = .ok (.aload_n 2, 1) := by decide +kernel
theorem dLaw_1491 : decode code 1491 = .ok (.aload_n 0, 1) := by decide +kernel
theorem dLaw_1492 : decode code 1492 = .ok (.iload_n 3, 1) := by decide +kernel
theorem dLaw_1493 : decode code 1493 = .ok (.iconst 1, 1) := by decide +kernel
theorem dLaw_1494 : decode code 1494 = .ok (.iadd, 1) := by decide +kernel
theorem dLaw_1495 : decode code 1495 = .ok (.iaload, 1) := by decide +kernel
theorem dLaw_1496 : decode code 1496 = .ok (.invokevirtual 159, 3) := by decide +kernel
theorem dLaw_1499 : decode code 1499 = .ok (.pop, 1) := by decide +kernel
theorem dLaw_1500 : decode code 1500 = .ok (.goto 504, 3) := by decide +kernel
theorem dLaw_1503 : decode code 1503 = .ok (.aload_n 1, 1) := by decide +kernel
theorem dLaw_1504 : decode code 1504 = .ok (.aload_n 0, 1) := by decide +kernel
theorem dLaw_1505 : decode code 1505 = .ok (.iload_n 3, 1) := by decide +kernel
theorem dLaw_1506 : decode code 1506 = .ok (.iconst 1, 1) := by decide +kernel
theorem dLaw_1507 : decode code 1507 = .ok (.iadd, 1) := by decide +kernel
theorem dLaw_1508 : decode code 1508 = .ok (.iaload, 1) := by decide +kernel
theorem dLaw_1509 : decode code 1509 = .ok (.aload_n 0, 1) := by decide +kernel
theorem dLaw_1510 : decode code 1510 = .ok (.iload_n 3, 1) := by decide +kernel
theorem dLaw_1511 : decode code 1511 = .ok (.iconst 2, 1) := by decide +kernel
theorem dLaw_1512 : decode code 1512 = .ok (.iadd, 1) := by decide +kernel
theorem dLaw_1513 : decode code 1513 = .ok (.iaload, 1) := by decide +kernel
theorem dLaw_1514 : decode code 1514 = .ok (.aload_n 0, 1) := by decide +kernel
theorem dLaw_1515 : decode code 1515 = .ok (.iload_n 3, 1) := by decide +kernel
theorem dLaw_1516 : decode code 1516 = .ok (.iconst 3, 1) := by decide +kernel
theorem dLaw_1517 : decode code 1517 = .ok (.iadd, 1) := by decide +kernel
theorem dLaw_1518 : decode code 1518 = .ok (.iaload, 1) := by decide +kernel
theorem dLaw_1519 : decode code 1519 = .ok (.invokevirtual 160, 3) := by decide +kernel
theorem dLaw_1522 : decode code 1522 = .ok (.pop, 1) := by decide +kernel
theorem dLaw_1523 : decode code 1523 = .ok (.aload_n 2, 1) := by decide +kernel
theorem dLaw_1524 : decode code 1524 = .ok (.aload_n 0, 1) := by decide +kernel
theorem dLaw_1525 : decode code 1525 = .ok (.iload_n 3, 1) := by decide +kernel
theorem dLaw_1526 : decode code 1526 = .ok (.iconst 1, 1) := by decide +kernel
theorem dLaw_1527 : decode code 1527 = .ok (.iadd, 1) := by decide +kernel
theorem dLaw_1528 : decode code 1528 = .ok (.iaload, 1) := by decide +kernel
theorem dLaw_1529 : decode code 1529 = .ok (.aload_n 0, 1) := by decide +kernel
theorem dLaw_1530 : decode code 1530 = .ok (.iload_n 3, 1) := by decide +kernel
theorem dLaw_1531 : decode code 1531 = .ok (.iconst 2, 1) := by decide +kernel
theorem dLaw_1532 : decode code 1532 = .ok (.iadd, 1) := by decide +kernel
theorem dLaw_1533 : decode code 1533 = .ok (.iaload, 1) := by decide +kernel
theorem dLaw_1534 : decode code 1534 = .ok (.aload_n 0, 1) := by decide +kernel
theorem dLaw_1535 : decode code 1535 = .ok (.iload_n 3, 1) := by decide +kernel
theorem dLaw_1536 : decode code 1536 = .ok (.iconst 3, 1) := by decide +kernel
theorem dLaw_1537 : decode code 1537 = .ok (.iadd, 1) := by decide +kernel
theorem dLaw_1538 : decode code 1538 = .ok (.iaload, 1) := by decide +kernel
theorem dLaw_1539 : decode code 1539 = .ok (.invokevirtual 163, 3) := by decide +kernel
theorem dLaw_1542 : decode code 1542 = .ok (.pop, 1) := by decide +kernel
theorem dLaw_1543 : decode code 1543 = .ok (.goto 461, 3) := by decide +kernel
theorem dLaw_1546 : decode code 1546 = .ok (.aload_n 1, 1) := by decide +kernel
theorem dLaw_1547 : decode code 1547 = .ok (.invokevirtual 164, 3) := by decide +kernel
theorem dLaw_1550 : decode code 1550 = .ok (.pop, 1) := by decide +kernel
theorem dLaw_1551 : decode code 1551 = .ok (.aload_n 2, 1) := by decide +kernel
theorem dLaw_1552 : decode code 1552 = .ok (.invokevirtual 167, 3) := by decide +kernel
theorem dLaw_1555 : decode code 1555 = .ok (.pop, 1) := by decide +kernel
theorem dLaw_1556 : decode code 1556 = .ok (.goto 448, 3) := by decide +kernel
theorem dLaw_1559 : decode code 1559 = .ok (.aload_n 1, 1) := by decide +kernel
theorem dLaw_1560 : decode code 1560 = .ok (.aload_n 0, 1) := by decide +kernel
theorem dLaw_1561 : decode code 1561 = .ok (.iload_n 3, 1) := by decide +kernel
theorem dLaw_1562 : decode code 1562 = .ok (.iconst 1, 1) := by decide +kernel
theorem dLaw_1563 : decode code 1563 = .ok (.iadd, 1) := by decide +kernel
theorem dLaw_1564 : decode code 1564 = .ok (.iaload, 1) := by decide +kernel
theorem dLaw_1565 : decode code 1565 = .ok (.invokevirtual 168, 3) := by decide +kernel
theorem dLaw_1568 : decode code 1568 = .ok (.pop, 1) := by decide +kernel
theorem dLaw_1569 : decode code 1569 = .ok (.aload_n 2, 1) := by decide +kernel
theorem dLaw_1570 : decode code 1570 = .ok (.aload_n 0, 1) := by decide +kernel
theorem dLaw_1571 : decode code 1571 = .ok (.iload_n 3, 1) := by decide +kernel
theorem dLaw_1572 : decode code 1572 = .ok (.iconst 1, 1) := by decide +kernel
theorem dLaw_1573 : decode code 1573 = .ok (.iadd, 1) := by decide +kernel
theorem dLaw_1574 : decode code 1574 = .ok (.iaload, 1) := by decide +kernel
theorem dLaw_1575 : decode code 1575 = .ok (.invokevirtual 171, 3) := by decide +kernel
theorem dLaw_1578 : decode code 1578 = .ok (.pop, 1) := by decide +kernel
theorem dLaw_1579 : decode code 1579 = .ok (.goto 425, 3) := by decide +kernel
theorem dLaw_1582 : decode code 1582 = .ok (.aload_n 1, 1) := by decide +kernel
theorem dLaw_1583 : decode code 1583 = .ok (.aload_n 0, 1) := by decide +kernel
theorem dLaw_1584 : decode code 1584 = .ok (.iload_n 3, 1) := by decide +kernel
theorem dLaw_1585 : decode code 1585 = .ok (.iconst 1, 1) := by decide +kernel
theorem dLaw_1586 : decode code 1586 = .ok (.iadd, 1) := by decide +kernel
theorem dLaw_1587 : decode code 1587 = .ok (.iaload, 1) := by decide +kernel
theorem dLaw_1588 : decode code 1588 = .ok (.aload_n 0, 1) := by decide +kernel
theorem dLaw_1589 : decode code 1589 = .ok (.iload_n 3, 1) := by decide +kernel
theorem dLaw_1590 : decode code 1590 = .ok (.iconst 2, 1) := by decide +kernel
theorem dLaw_1591 : decode code 1591 = .ok (.iadd, 1) := by decide +kernel
theorem dLaw_1592 : decode code 1592 = .ok (.iaload, 1) := by decide +kernel
theorem dLaw_1593 : decode code 1593 = .ok (.aload_n 0, 1) := by decide +kernel
theorem dLaw_1594 : decode code 1594 = .ok (.iload_n 3, 1) := by decide +kernel
theorem dLaw_1595 : decode code 1595 = .ok (.iconst 3, 1) := by decide +kernel
theorem dLaw_1596 : decode code 1596 = .ok (.iadd, 1) := by decide +kernel
theorem dLaw_1597 : decode code 1597 = .ok (.iaload, 1) := by decide +kernel
theorem dLaw_1598 : decode code 1598 = .ok (.aload_n 0, 1) := by decide +kernel
theorem dLaw_1599 : decode code 1599 = .ok (.iload_n 3, 1) := by decide +kernel
theorem dLaw_1600 : decode code 1600 = .ok (.iconst 4, 1) := by decide +kernel
theorem dLaw_1601 : decode code 1601 = .ok (.iadd, 1) := by decide +kernel
theorem dLaw_1602 : decode code 1602 = .ok (.iaload, 1) := by decide +kernel
theorem dLaw_1603 : decode code 1603 = .ok (.invokevirtual 172, 3) := by decide +kernel
theorem dLaw_1606 : decode code 1606 = .ok (.pop, 1) := by decide +kernel
theorem dLaw_1607 : decode code 1607 = .ok (.aload_n 2, 1) := by decide +kernel
theorem dLaw_1608 : decode code 1608 = .ok (.aload_n 0, 1) := by decide +kernel
theorem dLaw_1609 : decode code 1609 = .ok (.iload_n 3, 1) := by decide +kernel
theorem dLaw_1610 : decode code 1610 = .ok (.iconst 1, 1) := by decide +kernel
theorem dLaw_1611 : decode code 1611 = .ok (.iadd, 1) := by decide +kernel
theorem dLaw_1612 : decode code 1612 = .ok (.iaload, 1) := by decide +kernel
theorem dLaw_1613 : decode code 1613 = .ok (.aload_n 0, 1) := by decide +kernel
theorem dLaw_1614 : decode code 1614 = .ok (.iload_n 3, 1) := by decide +kernel
theorem dLaw_1615 : decode code 1615 = .ok (.iconst 2, 1) := by decide +kernel
theorem dLaw_1616 : decode code 1616 = .ok (.iadd, 1) := by decide +kernel
theorem dLaw_1617 : decode code 1617 = .ok (.iaload, 1) := by decide +kernel
theorem dLaw_1618 : decode code 1618 = .ok (.aload_n 0, 1) := by decide +kernel
theorem dLaw_1619 : decode code 1619 = .ok (.iload_n 3, 1) := by decide +kernel
theorem dLaw_1620 : decode code 1620 = .ok (.iconst 3, 1) := by decide +kernel
theorem dLaw_1621 : decode code 1621 = .ok (.iadd, 1) := by decide +kernel
theorem dLaw_1622 : decode code 1622 = .ok (.iaload, 1) := by decide +kernel
theorem dLaw_1623 : decode code 1623 = .ok (.aload_n 0, 1) := by decide +kernel
theorem dLaw_1624 : decode code 1624 = .ok (.iload_n 3, 1) := by decide +kernel
theorem dLaw_1625 : decode code 1625 = .ok (.iconst 4, 1) := by decide +kernel
theorem dLaw_1626 : decode code 1626 = .ok (.iadd, 1) := by decide +kernel
theorem dLaw_1627 : decode code 1627 = .ok (.iaload, 1) := by decide +kernel
theorem dLaw_1628 : decode code 1628 = .ok (.invokevirtual 175, 3) := by decide +kernel
theorem dLaw_1631 : decode code 1631 = .ok (.pop, 1) := by decide +kernel
theorem dLaw_1632 : decode code 1632 = .ok (.goto 372, 3) := by decide +kernel
theorem dLaw_1635 : decode code 1635 = .ok (.aload_n 1, 1) := by decide +kernel
theorem dLaw_1636 : decode code 1636 = .ok (.aload_n 0, 1) := by decide +kernel
theorem dLaw_1637 : decode code 1637 = .ok (.iload_n 3, 1) := by decide +kernel
theorem dLaw_1638 : decode code 1638 = .ok (.iconst 1, 1) := by decide +kernel
theorem dLaw_1639 : decode code 1639 = .ok (.iadd, 1) := by decide +kernel
theorem dLaw_1640 : decode code 1640 = .ok (.iaload, 1) := by decide +kernel
theorem dLaw_1641 : decode code 1641 = .ok (.aload_n 0, 1) := by decide +kernel
theorem dLaw_1642 : decode code 1642 = .ok (.iload_n 3, 1) := by decide +kernel
theorem dLaw_1643 : decode code 1643 = .ok (.iconst 2, 1) := by decide +kernel
theorem dLaw_1644 : decode code 1644 = .ok (.iadd, 1) := by decide +kernel
theorem dLaw_1645 : decode code 1645 = .ok (.iaload, 1) := by decide +kernel
theorem dLaw_1646 : decode code 1646 = .ok (.aload_n 0, 1) := by decide +kernel
theorem dLaw_1647 : decode code 1647 = .ok (.iload_n 3, 1) := by decide +kernel
theorem dLaw_1648 : decode code 1648 = .ok (.iconst 3, 1) := by decide +kernel
theorem dLaw_1649 : decode code 1649 = .ok (.iadd, 1) := by decide +kernel
theorem dLaw_1650 : decode code 1650 = .ok (.iaload, 1) := by decide +kernel
theorem dLaw_1651 : decode code 1651 = .ok (.invokevirtual 176, 3) := by decide +kernel
theorem dLaw_1654 : decode code 1654 = .ok (.pop, 1) := by decide +kernel
theorem dLaw_1655 : decode code 1655 = .ok (.aload_n 2, 1) := by decide +kernel
theorem dLaw_1656 : decode code 1656 = .ok (.aload_n 0, 1) := by decide +kernel
theorem dLaw_1657 : decode code 1657 = .ok (.iload_n 3, 1) := by decide +kernel
theorem dLaw_1658 : decode code 1658 = .ok (.iconst 1, 1) := by decide +kernel
theorem dLaw_1659 : decode code 1659 = .ok (.iadd, 1) := by decide +kernel
theorem dLaw_1660 : decode code 1660 = .ok (.iaload, 1) := by decide +kernel
theorem dLaw_1661 : decode code 1661 = .ok (.aload_n 0, 1) := by decide +kernel
theorem dLaw_1662 : decode code 1662 = .ok (.iload_n 3, 1) := by decide +kernel
theorem dLaw_1663 : decode code 1663 = .ok (.iconst 2, 1) := by decide +kernel
theorem dLaw_1664 : decode code 1664 = .ok (.iadd, 1) := by decide +kernel
theorem dLaw_1665 : decode code 1665 = .ok (.iaload, 1) := by decide +kernel
theorem dLaw_1666 : decode code 1666 = .ok (.aload_n 0, 1) := by decide +kernel
theorem dLaw_1667 : decode code 1667 = .ok (.iload_n 3, 1) := by decide +kernel
theorem dLaw_1668 : decode code 1668 = .ok (.iconst 3, 1) := by decide +kernel
theorem dLaw_1669 : decode code 1669 = .ok (.iadd, 1) := by decide +kernel
theorem dLaw_1670 : decode code 1670 = .ok (.iaload, 1) := by decide +kernel
theorem dLaw_1671 : decode code 1671 = .ok (.invokevirtual 179, 3) := by decide +kernel
theorem dLaw_1674 : decode code 1674 = .ok (.pop, 1) := by decide +kernel
theorem dLaw_1675 : decode code 1675 = .ok (.goto 329, 3) := by decide +kernel
theorem dLaw_1678 : decode code 1678 = .ok (.aload_n 1, 1) := by decide +kernel
theorem dLaw_1679 : decode code 1679 = .ok (.aload_n 0, 1) := by decide +kernel
theorem dLaw_1680 : decode code 1680 = .ok (.iload_n 3, 1) := by decide +kernel
theorem dLaw_1681 : decode code 1681 = .ok (.iconst 1, 1) := by decide +kernel
theorem dLaw_1682 : decode code 1682 = .ok (.iadd, 1) := by decide +kernel
theorem dLaw_1683 : decode code 1683 = .ok (.iaload, 1) := by decide +kernel
theorem dLaw_1684 : decode code 1684 = .ok (.aload_n 0, 1) := by decide +kernel
theorem dLaw_1685 : decode code 1685 = .ok (.iload_n 3, 1) := by decide +kernel
theorem dLaw_1686 : decode code 1686 = .ok (.iconst 2, 1) := by decide +kernel
theorem dLaw_1687 : decode code 1687 = .ok (.iadd, 1) := by decide +kernel
theorem dLaw_1688 : decode code 1688 = .ok (.iaload, 1) := by decide +kernel
theorem dLaw_1689 : decode code 1689 = .ok (.aload_n 0, 1) := by decide +kernel
theorem dLaw_1690 : decode code 1690 = .ok (.iload_n 3, 1) := by decide +kernel
theorem dLaw_1691 : decode code 1691 = .ok (.iconst 3, 1) := by decide +kernel
theorem dLaw_1692 : decode code 1692 = .ok (.iadd, 1) := by decide +kernel
theorem dLaw_1693 : decode code 1693 = .ok (.iaload, 1) := by decide +kernel
theorem dLaw_1694 : decode code 1694 = .ok (.aload_n 0, 1) := by decide +kernel
theorem dLaw_1695 : decode code 1695 = .ok (.iload_n 3, 1) := by decide +kernel
theorem dLaw_1696 : decode code 1696 = .ok (.iconst 4, 1) := by decide +kernel
theorem dLaw_1697 : decode code 1697 = .ok (.iadd, 1) := by decide +kernel
theorem dLaw_1698 : decode code 1698 = .ok (.iaload, 1) := by decide +kernel
theorem dLaw_1699 : decode code 1699 = .ok (.invokevirtual 180, 3) := by decide +kernel
theorem dLaw_1702 : decode code 1702 = .ok (.pop, 1) := by decide +kernel
theorem dLaw_1703 : decode code 1703 = .ok (.aload_n 2, 1) := by decide +kernel
theorem dLaw_1704 : decode code 1704 = .ok (.aload_n 0, 1) := by decide +kernel
theorem dLaw_1705 : decode code 1705 = .ok (.iload_n 3, 1) := by decide +kernel
theorem dLaw_1706 : decode code 1706 = .ok (.iconst 1, 1) := by decide +kernel
theorem dLaw_1707 : decode code 1707 = .ok (.iadd, 1) := by decide +kernel
theorem dLaw_1708 : decode code 1708 = .ok (.iaload, 1) := by decide +kernel
theorem dLaw_1709 : decode code 1709 = .ok (.aload_n 0, 1) := by decide +kernel
theorem dLaw_1710 : decode code 1710 = .ok (.iload_n 3, 1) := by decide +kernel
theorem dLaw_1711 : decode code 1711 = .ok (.iconst 2, 1) := by decide +kernel
theorem dLaw_1712 : decode code 1712 = .ok (.iadd, 1) := by decide +kernel
theorem dLaw_1713 : decode code 1713 = .ok (.iaload, 1) := by decide +kernel
theorem dLaw_1714 : decode code 1714 = .ok (.aload_n 0, 1) := by decide +kernel
theorem dLaw_1715 : decode code 1715 = .ok (.iload_n 3, 1) := by decide +kernel
theorem dLaw_1716 : decode code 1716 = .ok (.iconst 3, 1) := by decide +kernel
theorem dLaw_1717 : decode code 1717 = .ok (.iadd, 1) := by decide +kernel
theorem dLaw_1718 : decode code 1718 = .ok (.iaload, 1) := by decide +kernel
theorem dLaw_1719 : decode code 1719 = .ok (.aload_n 0, 1) := by decide +kernel
theorem dLaw_1720 : decode code 1720 = .ok (.iload_n 3, 1) := by decide +kernel
theorem dLaw_1721 : decode code 1721 = .ok (.iconst 4, 1) := by decide +kernel
theorem dLaw_1722 : decode code 1722 = .ok (.iadd, 1) := by decide +kernel
theorem dLaw_1723 : decode code 1723 = .ok (.iaload, 1) := by decide +kernel
theorem dLaw_1724 : decode code 1724 = .ok (.invokevirtual 183, 3) := by decide +kernel
theorem dLaw_1727 : decode code 1727 = .ok (.pop, 1) := by decide +kernel
theorem dLaw_1728 : decode code 1728 = .ok (.goto 276, 3) := by decide +kernel
theorem dLaw_1731 : decode code 1731 = .ok (.aload_n 1, 1) := by decide +kernel
theorem dLaw_1732 : decode code 1732 = .ok (.aload_n 0, 1) := by decide +kernel
theorem dLaw_1733 : decode code 1733 = .ok (.iload_n 3, 1) := by decide +kernel
theorem dLaw_1734 : decode code 1734 = .ok (.iconst 1, 1) := by decide +kernel
theorem dLaw_1735 : decode code 1735 = .ok (.iadd, 1) := by decide +kernel
theorem dLaw_1736 : decode code 1736 = .ok (.iaload, 1) := by decide +kernel
theorem dLaw_1737 : decode code 1737 = .ok (.aload_n 0, 1) := by decide +kernel
theorem dLaw_1738 : decode code 1738 = .ok (.iload_n 3, 1) := by decide +kernel
theorem dLaw_1739 : decode code 1739 = .ok (.iconst 2, 1) := by decide +kernel
theorem dLaw_1740 : decode code 1740 = .ok (.iadd, 1) := by decide +kernel
theorem dLaw_1741 : decode code 1741 = .ok (.iaload, 1) := by decide +kernel
theorem dLaw_1742 : decode code 1742 = .ok (.aload_n 0, 1) := by decide +kernel
theorem dLaw_1743 : decode code 1743 = .ok (.iload_n 3, 1) := by decide +kernel
theorem dLaw_1744 : decode code 1744 = .ok (.iconst 3, 1) := by decide +kernel
theorem dLaw_1745 : decode code 1745 = .ok (.iadd, 1) := by decide +kernel
theorem dLaw_1746 : decode code 1746 = .ok (.iaload, 1) := by decide +kernel
theorem dLaw_1747 : decode code 1747 = .ok (.aload_n 0, 1) := by decide +kernel
theorem dLaw_1748 : decode code 1748 = .ok (.iload_n 3, 1) := by decide +kernel
theorem dLaw_1749 : decode code 1749 = .ok (.iconst 4, 1) := by decide +kernel
theorem dLaw_1750 : decode code 1750 = .ok (.iadd, 1) := by decide +kernel
theorem dLaw_1751 : decode code 1751 = .ok (.iaload, 1) := by decide +kernel
theorem dLaw_1752 : decode code 1752 = .ok (.invokevirtual 184, 3) := by decide +kernel
theorem dLaw_1755 : decode code 1755 = .ok (.pop, 1) := by decide +kernel
theorem dLaw_1756 : decode code 1756 = .ok (.aload_n 2, 1) := by decide +kernel
theorem dLaw_1757 : decode code 1757 = .ok (.aload_n 0, 1) := by decide +kernel
theorem dLaw_1758 : decode code 1758 = .ok (.iload_n 3, 1) := by decide +kernel
theorem dLaw_1759 : decode code 1759 = .ok (.iconst 1, 1) := by decide +kernel
theorem dLaw_1760 : decode code 1760 = .ok (.iadd, 1) := by decide +kernel
theorem dLaw_1761 : decode code 1761 = .ok (.iaload, 1) := by decide +kernel
theorem dLaw_1762 : decode code 1762 = .ok (.aload_n 0, 1) := by decide +kernel
theorem dLaw_1763 : decode code 1763 = .ok (.iload_n 3, 1) := by decide +kernel
theorem dLaw_1764 : decode code 1764 = .ok (.iconst 2, 1) := by decide +kernel
theorem dLaw_1765 : decode code 1765 = .ok (.iadd, 1) := by decide +kernel
theorem dLaw_1766 : decode code 1766 = .ok (.iaload, 1) := by decide +kernel
theorem dLaw_1767 : decode code 1767 = .ok (.aload_n 0, 1) := by decide +kernel
theorem dLaw_1768 : decode code 1768 = .ok (.iload_n 3, 1) := by decide +kernel
theorem dLaw_1769 : decode code 1769 = .ok (.iconst 3, 1) := by decide +kernel
theorem dLaw_1770 : decode code 1770 = .ok (.iadd, 1) := by decide +kernel
theorem dLaw_1771 : decode code 1771 = .ok (.iaload, 1) := by decide +kernel
theorem dLaw_1772 : decode code 1772 = .ok (.aload_n 0, 1) := by decide +kernel
theorem dLaw_1773 : decode code 1773 = .ok (.iload_n 3, 1) := by decide +kernel
theorem dLaw_1774 : decode code 1774 = .ok (.iconst 4, 1) := by decide +kernel
theorem dLaw_1775 : decode code 1775 = .ok (.iadd, 1) := by decide +kernel
theorem dLaw_1776 : decode code 1776 = .ok (.iaload, 1) := by decide +kernel
theorem dLaw_1777 : decode code 1777 = .ok (.invokevirtual 187, 3) := by decide +kernel
theorem dLaw_1780 : decode code 1780 = .ok (.pop, 1) := by decide +kernel
theorem dLaw_1781 : decode code 1781 = .ok (.goto 223, 3) := by decide +kernel
theorem dLaw_1784 : decode code 1784 = .ok (.aload_n 1, 1) := by decide +kernel
theorem dLaw_1785 : decode code 1785 = .ok (.invokevirtual 188, 3) := by decide +kernel
theorem dLaw_1788 : decode code 1788 = .ok (.pop, 1) := by decide +kernel
theorem dLaw_1789 : decode code 1789 = .ok (.aload_n 2, 1) := by decide +kernel
theorem dLaw_1790 : decode code 1790 = .ok (.invokevirtual 191, 3) := by decide +kernel
theorem dLaw_1793 : decode code 1793 = .ok (.pop, 1) := by decide +kernel
theorem dLaw_1794 : decode code 1794 = .ok (.goto 210, 3) := by decide +kernel
theorem dLaw_1797 : decode code 1797 = .ok (.aload_n 1, 1) := by decide +kernel
theorem dLaw_1798 : decode code 1798 = .ok (.invokevirtual 192, 3) := by decide +kernel
theorem dLaw_1801 : decode code 1801 = .ok (.pop, 1) := by decide +kernel
theorem dLaw_1802 : decode code 1802 = .ok (.aload_n 2, 1) := by decide +kernel
theorem dLaw_1803 : decode code 1803 = .ok (.invokevirtual 195, 3) := by decide +kernel
theorem dLaw_1806 : decode code 1806 = .ok (.pop, 1) := by decide +kernel
theorem dLaw_1807 : decode code 1807 = .ok (.goto 197, 3) := by decide +kernel
theorem dLaw_1810 : decode code 1810 = .ok (.aload_n 1, 1) := by decide +kernel
theorem dLaw_1811 : decode code 1811 = .ok (.aload_n 0, 1) := by decide +kernel
theorem dLaw_1812 : decode code 1812 = .ok (.iload_n 3, 1) := by decide +kernel
theorem dLaw_1813 : decode code 1813 = .ok (.iconst 1, 1) := by decide +kernel
theorem dLaw_1814 : decode code 1814 = .ok (.iadd, 1) := by decide +kernel
theorem dLaw_1815 : decode code 1815 = .ok (.iaload, 1) := by decide +kernel
theorem dLaw_1816 : decode code 1816 = .ok (.aload_n 0, 1) := by decide +kernel
theorem dLaw_1817 : decode code 1817 = .ok (.iload_n 3, 1) := by decide +kernel
theorem dLaw_1818 : decode code 1818 = .ok (.iconst 2, 1) := by decide +kernel
theorem dLaw_1819 : decode code 1819 = .ok (.iadd, 1) := by decide +kernel
theorem dLaw_1820 : decode code 1820 = .ok (.iaload, 1) := by decide +kernel
theorem dLaw_1821 : decode code 1821 = .ok (.invokevirtual 196, 3) := by decide +kernel
theorem dLaw_1824 : decode code 1824 = .ok (.pop, 1) := by decide +kernel
theorem dLaw_1825 : decode code 1825 = .ok (.aload_n 2, 1) := by decide +kernel
theorem dLaw_1826 : decode code 1826 = .ok (.aload_n 0, 1) := by decide +kernel
theorem dLaw_1827 : decode code 1827 = .ok (.iload_n 3, 1) := by decide +kernel
theorem dLaw_1828 : decode code 1828 = .ok (.iconst 1, 1) := by decide +kernel
theorem dLaw_1829 : decode code 1829 = .ok (.iadd, 1) := by decide +kernel
theorem dLaw_1830 : decode code 1830 = .ok (.iaload, 1) := by decide +kernel
theorem dLaw_1831 : decode code 1831 = .ok (.aload_n 0, 1) := by decide +kernel
theorem dLaw_1832 : decode code 1832 = .ok (.iload_n 3, 1) := by decide +kernel
theorem dLaw_1833 : decode code 1833 = .ok (.iconst 2, 1) := by decide +kernel
theorem dLaw_1834 : decode code 1834 = .ok (.iadd, 1) := by decide +kernel
theorem dLaw_1835 : decode code 1835 = .ok (.iaload, 1) := by decide +kernel
theorem dLaw_1836 : decode code 1836 = .ok (.invokevirtual 199, 3) := by decide +kernel
theorem dLaw_1839 : decode code 1839 = .ok (.pop, 1) := by decide +kernel
theorem dLaw_1840 : decode code 1840 = .ok (.goto 164, 3) := by decide +kernel
theorem dLaw_1843 : decode code 1843 = .ok (.aload_n 1, 1) := by decide +kernel
theorem dLaw_1844 : decode code 1844 = .ok (.aload_n 0, 1) := by decide +kernel
theorem dLaw_1845 : decode code 1845 = .ok (.iload_n 3, 1) := by decide +kernel
theorem dLaw_1846 : decode code 1846 = .ok (.iconst 1, 1) := by decide +kernel
theorem dLaw_1847 : decode code 1847 = .ok (.iadd, 1) := by decide +kernel
theorem dLaw_1848 : decode code 1848 = .ok (.iaload, 1) := by decide +kernel
theorem dLaw_1849 : decode code 1849 = .ok (.invokevirtual 200, 3) := by decide +kernel
theorem dLaw_1852 : decode code 1852 = .ok (.pop, 1) := by decide +kernel
theorem dLaw_1853 : decode code 1853 = .ok (.aload_n 2, 1) := by decide +kernel
theorem dLaw_1854 : decode code 1854 = .ok (.aload_n 0, 1) := by decide +kernel
theorem dLaw_1855 : decode code 1855 = .ok (.iload_n 3, 1) := by decide +kernel
theorem dLaw_1856 : decode code 1856 = .ok (.iconst 1, 1) := by decide +kernel
theorem dLaw_1857 : decode code 1857 = .ok (.iadd, 1) := by decide +kernel
theorem dLaw_1858 : decode code 1858 = .ok (.iaload, 1) := by decide +kernel
theorem dLaw_1859 : decode code 1859 = .ok (.invokevirtual 203, 3) := by decide +kernel
theorem dLaw_1862 : decode code 1862 = .ok (.pop, 1) := by decide +kernel
theorem dLaw_1863 : decode code 1863 = .ok (.goto 141, 3) := by decide +kernel
theorem dLaw_1866 : decode code 1866 = .ok (.aload_n 1, 1) := by decide +kernel
theorem dLaw_1867 : decode code 1867 = .ok (.aload_n 0, 1) := by decide +kernel
theorem dLaw_1868 : decode code 1868 = .ok (.iload_n 3, 1) := by decide +kernel
theorem dLaw_1869 : decode code 1869 = .ok (.iconst 1, 1) := by decide +kernel
theorem dLaw_1870 : decode code 1870 = .ok (.iadd, 1) := by decide +kernel
theorem dLaw_1871 : decode code 1871 = .ok (.iaload, 1) := by decide +kernel
theorem dLaw_1872 : decode code 1872 = .ok (.aload_n 0, 1) := by decide +kernel
theorem dLaw_1873 : decode code 1873 = .ok (.iload_n 3, 1) := by decide +kernel
theorem dLaw_1874 : decode code 1874 = .ok (.iconst 2, 1) := by decide +kernel
theorem dLaw_1875 : decode code 1875 = .ok (.iadd, 1) := by decide +kernel
theorem dLaw_1876 : decode code 1876 = .ok (.iaload, 1) := by decide +kernel
theorem dLaw_1877 : decode code 1877 = .ok (.invokevirtual 204, 3) := by decide +kernel
theorem dLaw_1880 : decode code 1880 = .ok (.pop, 1) := by decide +kernel
theorem dLaw_1881 : decode code 1881 = .ok (.aload_n 2, 1) := by decide +kernel
theorem dLaw_1882 : decode code 1882 = .ok (.aload_n 0, 1) := by decide +kernel
theorem dLaw_1883 : decode code 1883 = .ok (.iload_n 3, 1) := by decide +kernel
theorem dLaw_1884 : decode code 1884 = .ok (.iconst 1, 1) := by decide +kernel
theorem dLaw_1885 : decode code 1885 = .ok (.iadd, 1) := by decide +kernel
theorem dLaw_1886 : decode code 1886 = .ok (.iaload, 1) := by decide +kernel
theorem dLaw_1887 : decode code 1887 = .ok (.aload_n 0, 1) := by decide +kernel
theorem dLaw_1888 : decode code 1888 = .ok (.iload_n 3, 1) := by decide +kernel
theorem dLaw_1889 : decode code 1889 = .ok (.iconst 2, 1) := by decide +kernel
theorem dLaw_1890 : decode code 1890 = .ok (.iadd, 1) := by decide +kernel
theorem dLaw_1891 : decode code 1891 = .ok (.iaload, 1) := by decide +kernel
theorem dLaw_1892 : decode code 1892 = .ok (.invokevirtual 207, 3) := by decide +kernel
theorem dLaw_1895 : decode code 1895 = .ok (.pop, 1) := by decide +kernel
theorem dLaw_1896 : decode code 1896 = .ok (.goto 108, 3) := by decide +kernel
theorem dLaw_1899 : decode code 1899 = .ok (.aload_n 1, 1) := by decide +kernel
theorem dLaw_1900 : decode code 1900 = .ok (.aload_n 0, 1) := by decide +kernel
theorem dLaw_1901 : decode code 1901 = .ok (.iload_n 3, 1) := by decide +kernel
theorem dLaw_1902 : decode code 1902 = .ok (.iconst 1, 1) := by decide +kernel
theorem dLaw_1903 : decode code 1903 = .ok (.iadd, 1) := by decide +kernel
theorem dLaw_1904 : decode code 1904 = .ok (.iaload, 1) := by decide +kernel
theorem dLaw_1905 : decode code 1905 = .ok (.invokevirtual 208, 3) := by decide +kernel
theorem dLaw_1908 : decode code 1908 = .ok (.pop, 1) := by decide +kernel
theorem dLaw_1909 : decode code 1909 = .ok (.aload_n 2, 1) := by decide +kernel
theorem dLaw_1910 : decode code 1910 = .ok (.aload_n 0, 1) := by decide +kernel
theorem dLaw_1911 : decode code 1911 = .ok (.iload_n 3, 1) := by decide +kernel
theorem dLaw_1912 : decode code 1912 = .ok (.iconst 1, 1) := by decide +kernel
theorem dLaw_1913 : decode code 1913 = .ok (.iadd, 1) := by decide +kernel
theorem dLaw_1914 : decode code 1914 = .ok (.iaload, 1) := by decide +kernel
theorem dLaw_1915 : decode code 1915 = .ok (.invokevirtual 211, 3) := by decide +kernel
theorem dLaw_1918 : decode code 1918 = .ok (.pop, 1) := by decide +kernel
theorem dLaw_1919 : decode code 1919 = .ok (.goto 85, 3) := by decide +kernel
theorem dLaw_1922 : decode code 1922 = .ok (.aload_n 1, 1) := by decide +kernel
theorem dLaw_1923 : decode code 1923 = .ok (.aload_n 0, 1) := by decide +kernel
theorem dLaw_1924 : decode code 1924 = .ok (.iload_n 3, 1) := by decide +kernel
theorem dLaw_1925 : decode code 1925 = .ok (.iconst 1, 1) := by decide +kernel
theorem dLaw_1926 : decode code 1926 = .ok (.iadd, 1) := by decide +kernel
theorem dLaw_1927 : decode code 1927 = .ok (.iaload, 1) := by decide +kernel
theorem dLaw_1928 : decode code 1928 = .ok (.invokevirtual 212, 3) := by decide +kernel
theorem dLaw_1931 : decode code 1931 = .ok (.pop, 1) := by decide +kernel
theorem dLaw_1932 : decode code 1932 = .ok (.aload_n 2, 1) := by decide +kernel
theorem dLaw_1933 : decode code 1933 = .ok (.aload_n 0, 1) := by decide +kernel
theorem dLaw_1934 : decode code 1934 = .ok (.iload_n 3, 1) := by decide +kernel
theorem dLaw_1935 : decode code 1935 = .ok (.iconst 1, 1) := by decide +kernel
theorem dLaw_1936 : decode code 1936 = .ok (.iadd, 1) := by decide +kernel
theorem dLaw_1937 : decode code 1937 = .ok (.iaload, 1) := by decide +kernel
theorem dLaw_1938 : decode code 1938 = .ok (.invokevirtual 215, 3) := by decide +kernel
theorem dLaw_1941 : decode code 1941 = .ok (.pop, 1) := by decide +kernel
theorem dLaw_1942 : decode code 1942 = .ok (.goto 62, 3) := by decide +kernel
theorem dLaw_1945 : decode code 1945 = .ok (.aload_n 1, 1) := by decide +kernel
theorem dLaw_1946 : decode code 1946 = .ok (.aload_n 0, 1) := by decide +kernel
theorem dLaw_1947 : decode code 1947 = .ok (.iload_n 3, 1) := by decide +kernel
theorem dLaw_1948 : decode code 1948 = .ok (.iconst 1, 1) := by decide +kernel
theorem dLaw_1949 : decode code 1949 = .ok (.iadd, 1) := by decide +kernel
theorem dLaw_1950 : decode code 1950 = .ok (.iaload, 1) := by decide +kernel
theorem dLaw_1951 : decode code 1951 = .ok (.invokevirtual 216, 3) := by decide +kernel
theorem dLaw_1954 : decode code 1954 = .ok (.pop, 1) := by decide +kernel
theorem dLaw_1955 : decode code 1955 = .ok (.aload_n 2, 1) := by decide +kernel
theorem dLaw_1956 : decode code 1956 = .ok (.aload_n 0, 1) := by decide +kernel
theorem dLaw_1957 : decode code 1957 = .ok (.iload_n 3, 1) := by decide +kernel
theorem dLaw_1958 : decode code 1958 = .ok (.iconst 1, 1) := by decide +kernel
theorem dLaw_1959 : decode code 1959 = .ok (.iadd, 1) := by decide +kernel
theorem dLaw_1960 : decode code 1960 = .ok (.iaload, 1) := by decide +kernel
theorem dLaw_1961 : decode code 1961 = .ok (.invokevirtual 219, 3) := by decide +kernel
theorem dLaw_1964 : decode code 1964 = .ok (.pop, 1) := by decide +kernel
theorem dLaw_1965 : decode code 1965 = .ok (.goto 39, 3) := by decide +kernel
theorem dLaw_1968 : decode code 1968 = .ok (.aload_n 1, 1) := by decide +kernel
theorem dLaw_1969 : decode code 1969 = .ok (.aload_n 0, 1) := by decide +kernel
theorem dLaw_1970 : decode code 1970 = .ok (.iload_n 3, 1) := by decide +kernel
theorem dLaw_1971 : decode code 1971 = .ok (.iconst 1, 1) := by decide +kernel
theorem dLaw_1972 : decode code 1972 = .ok (.iadd, 1) := by decide +kernel
theorem dLaw_1973 : decode code 1973 = .ok (.iaload, 1) := by decide +kernel
theorem dLaw_1974 : decode code 1974 = .ok (.invokevirtual 220, 3) := by decide +kernel
theorem dLaw_1977 : decode code 1977 = .ok (.pop, 1) := by decide +kernel
theorem dLaw_1978 : decode code 1978 = .ok (.aload_n 2, 1) := by decide +kernel
theorem dLaw_1979 : decode code 1979 = .ok (.aload_n 0, 1) := by decide +kernel
theorem dLaw_1980 : decode code 1980 = .ok (.iload_n 3, 1) := by decide +kernel
theorem dLaw_1981 : decode code 1981 = .ok (.iconst 1, 1) := by decide +kernel
theorem dLaw_1982 : decode code 1982 = .ok (.iadd, 1) := by decide +kernel
theorem dLaw_1983 : decode code 1983 = .ok (.iaload, 1) := by decide +kernel
theorem dLaw_1984 : decode code 1984 = .ok (.invokevirtual 223, 3) := by decide +kernel
theorem dLaw_1987 : decode code 1987 = .ok (.pop, 1) := by decide +kernel
theorem dLaw_1988 : decode code 1988 = .ok (.goto 16, 3) := by decide +kernel
theorem dLaw_1991 : decode code 1991 = .ok (.aload_n 1, 1) := by decide +kernel
theorem dLaw_1992 : decode code 1992 = .ok (.invokevirtual 224, 3) := by decide +kernel
theorem dLaw_1995 : decode code 1995 = .ok (.pop, 1) := by decide +kernel
theorem dLaw_1996 : decode code 1996 = .ok (.aload_n 2, 1) := by decide +kernel
theorem dLaw_1997 : decode code 1997 = .ok (.invokevirtual 227, 3) := by decide +kernel
theorem dLaw_2000 : decode code 2000 = .ok (.pop, 1) := by decide +kernel
theorem dLaw_2001 : decode code 2001 = .ok (.goto 3, 3) := by decide +kernel
theorem dLaw_2004 : decode code 2004 = .ok (.iinc 3 7, 3) := by decide +kernel
theorem dLaw_2007 : decode code 2007 = .ok (.goto (-1989), 3) := by decide +kernel
theorem dLaw_2010 : decode code 2010 = .ok (.iconst 1, 1) := by decide +kernel
theorem dLaw_2011 : decode code 2011 = .ok (.ireturn, 1) := by decide +kernel
theorem wd_1020 : (Jvm.Cond.methodLink "NineRiverLaw" (156 : Nat) yX11_pairs) ∈ TB := tw 1020 (by decide +kernel) (by decide +kernel)
theorem wd_1021 : (Jvm.Cond.instanceMethod yX11_pairs) ∈ TB := tw 1021 (by decide +kernel) (by decide +kernel)
theorem wd_1022 : (Cond.selects RX11 yX11_pairs yX11_pairs) ∈ TB := tw 1022 (by decide +kernel) (by decide +kernel)
theorem wd_1023 : (Cond.code yX11_pairs cX11_pairs 2 (Option.some Jvm.ClassFile.FieldType.int)) ∈ TB := tw 1023 (by decide +kernel) (by decide +kernel)
theorem wd_1042 : (Jvm.Cond.methodLink "NineRiverLaw" (160 : Nat) yX11_job) ∈ TB := tw 1042 (by decide +kernel) (by decide +kernel)
theorem wd_1043 : (Jvm.Cond.instanceMethod yX11_job) ∈ TB := tw 1043 (by decide +kernel) (by decide +kernel)
theorem wd_1044 : (Cond.selects RX11 yX11_job yX11_job) ∈ TB := tw 1044 (by decide +kernel) (by decide +kernel)
theorem wd_1045 : (Cond.code yX11_job cX11_job 4 (Option.some Jvm.ClassFile.FieldType.int)) ∈ TB := tw 1045 (by decide +kernel) (by decide +kernel)
theorem wd_1046 : (Jvm.Cond.methodLink "NineRiverLaw" (164 : Nat) yX11_hang) ∈ TB := tw 1046 (by decide +kernel) (by decide +kernel)
theorem wd_1047 : (Jvm.Cond.instanceMethod yX11_hang) ∈ TB := tw 1047 (by decide +kernel) (by decide +kernel)
theorem wd_1048 : (Cond.selects RX11 yX11_hang yX11_hang) ∈ TB := tw 1048 (by decide +kernel) (by decide +kernel)
theorem wd_1049 : (Cond.code yX11_hang cX11_hang 1 (Option.some Jvm.ClassFile.FieldType.int)) ∈ TB := tw 1049 (by decide +kernel) (by decide +kernel)
theorem wd_1050 : (Jvm.Cond.methodLink "NineRiverLaw" (168 : Nat) yX11_laundry) ∈ TB := tw 1050 (by decide +kernel) (by decide +kernel)
theorem wd_1051 : (Jvm.Cond.instanceMethod yX11_laundry) ∈ TB := tw 1051 (by decide +kernel) (by decide +kernel)
theorem wd_1052 : (Cond.selects RX11 yX11_laundry yX11_laundry) ∈ TB := tw 1052 (by decide +kernel) (by decide +kernel)
theorem wd_1053 : (Cond.code yX11_laundry cX11_laundry 2 (Option.some Jvm.ClassFile.FieldType.int)) ∈ TB := tw 1053 (by decide +kernel) (by decide +kernel)
theorem wd_1080 : (Jvm.Cond.methodLink "NineRiverLaw" (172 : Nat) yX11_lovers) ∈ TB := tw 1080 (by decide +kernel) (by decide +kernel)
theorem wd_1081 : (Jvm.Cond.instanceMethod yX11_lovers) ∈ TB := tw 1081 (by decide +kernel) (by decide +kernel)
theorem wd_1082 : (Cond.selects RX11 yX11_lovers yX11_lovers) ∈ TB := tw 1082 (by decide +kernel) (by decide +kernel)
theorem wd_1083 : (Cond.code yX11_lovers cX11_lovers 5 (Option.some Jvm.ClassFile.FieldType.int)) ∈ TB := tw 1083 (by decide +kernel) (by decide +kernel)
theorem wd_1094 : (Jvm.Cond.methodLink "NineRiverLaw" (176 : Nat) yX11_duck) ∈ TB := tw 1094 (by decide +kernel) (by decide +kernel)
theorem wd_1095 : (Jvm.Cond.instanceMethod yX11_duck) ∈ TB := tw 1095 (by decide +kernel) (by decide +kernel)
theorem wd_1096 : (Cond.selects RX11 yX11_duck yX11_duck) ∈ TB := tw 1096 (by decide +kernel) (by decide +kernel)
theorem wd_1097 : (Cond.code yX11_duck cX11_duck 4 (Option.some Jvm.ClassFile.FieldType.int)) ∈ TB := tw 1097 (by decide +kernel) (by decide +kernel)
theorem wd_1105 : (Jvm.Cond.methodLink "NineRiverLaw" (180 : Nat) yX11_matters) ∈ TB := tw 1105 (by decide +kernel) (by decide +kernel)
theorem wd_1106 : (Jvm.Cond.instanceMethod yX11_matters) ∈ TB := tw 1106 (by decide +kernel) (by decide +kernel)
theorem wd_1107 : (Cond.selects RX11 yX11_matters yX11_matters) ∈ TB := tw 1107 (by decide +kernel) (by decide +kernel)
theorem wd_1108 : (Cond.code yX11_matters cX11_matters 5 (Option.some Jvm.ClassFile.FieldType.int)) ∈ TB := tw 1108 (by decide +kernel) (by decide +kernel)
theorem wd_1122 : (Jvm.Cond.methodLink "NineRiverLaw" (184 : Nat) yX11_wish) ∈ TB := tw 1122 (by decide +kernel) (by decide +kernel)
theorem wd_1123 : (Jvm.Cond.instanceMethod yX11_wish) ∈ TB := tw 1123 (by decide +kernel) (by decide +kernel)
theorem wd_1124 : (Cond.selects RX11 yX11_wish yX11_wish) ∈ TB := tw 1124 (by decide +kernel) (by decide +kernel)
theorem wd_1125 : (Cond.code yX11_wish cX11_wish 5 (Option.some Jvm.ClassFile.FieldType.int)) ∈ TB := tw 1125 (by decide +kernel) (by decide +kernel)
theorem wd_1126 : (Jvm.Cond.methodLink "NineRiverLaw" (188 : Nat) yX11_drop) ∈ TB := tw 1126 (by decide +kernel) (by decide +kernel)
theorem wd_1127 : (Jvm.Cond.instanceMethod yX11_drop) ∈ TB := tw 1127 (by decide +kernel) (by decide +kernel)
theorem wd_1128 : (Cond.selects RX11 yX11_drop yX11_drop) ∈ TB := tw 1128 (by decide +kernel) (by decide +kernel)
theorem wd_1129 : (Cond.code yX11_drop cX11_drop 1 (Option.some Jvm.ClassFile.FieldType.int)) ∈ TB := tw 1129 (by decide +kernel) (by decide +kernel)
theorem wd_1130 : (Jvm.Cond.methodLink "NineRiverLaw" (192 : Nat) yX11_granted) ∈ TB := tw 1130 (by decide +kernel) (by decide +kernel)
theorem wd_1131 : (Jvm.Cond.instanceMethod yX11_granted) ∈ TB := tw 1131 (by decide +kernel) (by decide +kernel)
theorem wd_1132 : (Cond.selects RX11 yX11_granted yX11_granted) ∈ TB := tw 1132 (by decide +kernel) (by decide +kernel)
theorem wd_1133 : (Cond.code yX11_granted cX11_granted 1 (Option.some Jvm.ClassFile.FieldType.int)) ∈ TB := tw 1133 (by decide +kernel) (by decide +kernel)
theorem wd_1141 : (Jvm.Cond.methodLink "NineRiverLaw" (196 : Nat) yX11_best) ∈ TB := tw 1141 (by decide +kernel) (by decide +kernel)
theorem wd_1142 : (Jvm.Cond.instanceMethod yX11_best) ∈ TB := tw 1142 (by decide +kernel) (by decide +kernel)
theorem wd_1143 : (Cond.selects RX11 yX11_best yX11_best) ∈ TB := tw 1143 (by decide +kernel) (by decide +kernel)
theorem wd_1144 : (Cond.code yX11_best cX11_best 3 (Option.some Jvm.ClassFile.FieldType.int)) ∈ TB := tw 1144 (by decide +kernel) (by decide +kernel)
theorem wd_1172 : (Jvm.Cond.methodLink "NineRiverLaw" (200 : Nat) yX11_set) ∈ TB := tw 1172 (by decide +kernel) (by decide +kernel)
theorem wd_1173 : (Jvm.Cond.instanceMethod yX11_set) ∈ TB := tw 1173 (by decide +kernel) (by decide +kernel)
theorem wd_1174 : (Cond.selects RX11 yX11_set yX11_set) ∈ TB := tw 1174 (by decide +kernel) (by decide +kernel)
theorem wd_1175 : (Cond.code yX11_set cX11_set 3 (Option.some Jvm.ClassFile.FieldType.int)) ∈ TB := tw 1175 (by decide +kernel) (by decide +kernel)
theorem wd_1177 : (Jvm.Cond.methodLink "NineRiverLaw" (204 : Nat) yX11_week) ∈ TB := tw 1177 (by decide +kernel) (by decide +kernel)
theorem wd_1178 : (Jvm.Cond.instanceMethod yX11_week) ∈ TB := tw 1178 (by decide +kernel) (by decide +kernel)
theorem wd_1179 : (Cond.selects RX11 yX11_week yX11_week) ∈ TB := tw 1179 (by decide +kernel) (by decide +kernel)
theorem wd_1180 : (Cond.code yX11_week cX11_week 3 (Option.some Jvm.ClassFile.FieldType.int)) ∈ TB := tw 1180 (by decide +kernel) (by decide +kernel)
theorem wd_1194 : (Jvm.Cond.methodLink "NineRiverLaw" (208 : Nat) yX11_drawn) ∈ TB := tw 1194 (by decide +kernel) (by decide +kernel)
theorem wd_1195 : (Jvm.Cond.instanceMethod yX11_drawn) ∈ TB := tw 1195 (by decide +kernel) (by decide +kernel)
theorem wd_1196 : (Cond.selects RX11 yX11_drawn yX11_drawn) ∈ TB := tw 1196 (by decide +kernel) (by decide +kernel)
theorem wd_1197 : (Cond.code yX11_drawn cX11_drawn 2 (Option.some Jvm.ClassFile.FieldType.int)) ∈ TB := tw 1197 (by decide +kernel) (by decide +kernel)
theorem wd_1198 : (Jvm.Cond.methodLink "NineRiverLaw" (212 : Nat) yX11_image) ∈ TB := tw 1198 (by decide +kernel) (by decide +kernel)
theorem wd_1199 : (Jvm.Cond.instanceMethod yX11_image) ∈ TB := tw 1199 (by decide +kernel) (by decide +kernel)
theorem wd_1200 : (Cond.selects RX11 yX11_image yX11_image) ∈ TB := tw 1200 (by decide +kernel) (by decide +kernel)
theorem wd_1201 : (Cond.code yX11_image cX11_image 2 (Option.some Jvm.ClassFile.FieldType.int)) ∈ TB := tw 1201 (by decide +kernel) (by decide +kernel)
theorem wd_1211 : (Jvm.Cond.methodLink "NineRiverLaw" (216 : Nat) yX11_back) ∈ TB := tw 1211 (by decide +kernel) (by decide +kernel)
theorem wd_1212 : (Jvm.Cond.instanceMethod yX11_back) ∈ TB := tw 1212 (by decide +kernel) (by decide +kernel)
theorem wd_1213 : (Cond.selects RX11 yX11_back yX11_back) ∈ TB := tw 1213 (by decide +kernel) (by decide +kernel)
theorem wd_1214 : (Cond.code yX11_back cX11_back 3 (Option.some Jvm.ClassFile.FieldType.int)) ∈ TB := tw 1214 (by decide +kernel) (by decide +kernel)
theorem wd_1215 : (Jvm.Cond.methodLink "NineRiverLaw" (220 : Nat) yX11_count) ∈ TB := tw 1215 (by decide +kernel) (by decide +kernel)
theorem wd_1216 : (Jvm.Cond.instanceMethod yX11_count) ∈ TB := tw 1216 (by decide +kernel) (by decide +kernel)
theorem wd_1217 : (Cond.selects RX11 yX11_count yX11_count) ∈ TB := tw 1217 (by decide +kernel) (by decide +kernel)
theorem wd_1218 : (Cond.code yX11_count cX11_count 2 (Option.some Jvm.ClassFile.FieldType.int)) ∈ TB := tw 1218 (by decide +kernel) (by decide +kernel)
theorem wd_1223 : (Jvm.Cond.methodLink "NineRiverLaw" (224 : Nat) yX11_status) ∈ TB := tw 1223 (by decide +kernel) (by decide +kernel)
theorem wd_1224 : (Jvm.Cond.instanceMethod yX11_status) ∈ TB := tw 1224 (by decide +kernel) (by decide +kernel)
theorem wd_1225 : (Cond.selects RX11 yX11_status yX11_status) ∈ TB := tw 1225 (by decide +kernel) (by decide +kernel)
theorem wd_1226 : (Cond.code yX11_status cX11_status 1 (Option.some Jvm.ClassFile.FieldType.int)) ∈ TB := tw 1226 (by decide +kernel) (by decide +kernel)
theorem wd_1227 : (Jvm.Cond.classLink "NineRiverLaw" (10 : Nat) "NineRiverModel") ∈ TB := tw 1227 (by decide +kernel) (by decide +kernel)
theorem wd_1228 : (Cond.instantiable RX12 (52 : Nat)) ∈ TB := tw 1228 (by decide +kernel) (by decide +kernel)
theorem wd_1229 : (Jvm.Cond.methodLink "NineRiverLaw" (12 : Nat) yX12_init) ∈ TB := tw 1229 (by decide +kernel) (by decide +kernel)
theorem wd_1230 : (Jvm.Cond.instanceMethod yX12_init) ∈ TB := tw 1230 (by decide +kernel) (by decide +kernel)
set_option maxHeartbeats 4000000 in theorem wd_1231 : (Cond.code yX12_init cX12_init 1 (Option.none : Option Jvm.ClassFile.FieldType)) ∈ TB := tw 1231 (by decide +kernel) (by decide +kernel)
theorem wd_1391 : (Jvm.Cond.methodLink "NineRiverLaw" (215 : Nat) yX12_image) ∈ TB := tw 1391 (by decide +kernel) (by decide +kernel)
theorem wd_1392 : (Jvm.Cond.instanceMethod yX12_image) ∈ TB := tw 1392 (by decide +kernel) (by decide +kernel)
theorem wd_1393 : (Cond.selects RX12 yX12_image yX12_image) ∈ TB := tw 1393 (by decide +kernel) (by decide +kernel)
theorem wd_1394 : (Cond.code yX12_image cX12_image 3 (Option.some Jvm.ClassFile.FieldType.int)) ∈ TB := tw 1394 (by decide +kernel) (by decide +kernel)
theorem wd_1406 : (Jvm.Cond.methodLink "NineRiverLaw" (219 : Nat) yX12_back) ∈ TB := tw 1406 (by decide +kernel) (by decide +kernel)
theorem wd_1407 : (Jvm.Cond.instanceMethod yX12_back) ∈ TB := tw 1407 (by decide +kernel) (by decide +kernel)
theorem wd_1408 : (Cond.selects RX12 yX12_back yX12_back) ∈ TB := tw 1408 (by decide +kernel) (by decide +kernel)
theorem wd_1409 : (Cond.code yX12_back cX12_back 3 (Option.some Jvm.ClassFile.FieldType.int)) ∈ TB := tw 1409 (by decide +kernel) (by decide +kernel)
theorem wd_1410 : (Jvm.Cond.methodLink "NineRiverLaw" (17 : Nat) yX12_pump) ∈ TB := tw 1410 (by decide +kernel) (by decide +kernel)
theorem wd_1411 : (Jvm.Cond.instanceMethod yX12_pump) ∈ TB := tw 1411 (by decide +kernel) (by decide +kernel)
theorem wd_1412 : (Cond.selects RX12 yX12_pump yX12_pump) ∈ TB := tw 1412 (by decide +kernel) (by decide +kernel)
theorem wd_1413 : (Cond.code yX12_pump cX12_pump 8 (Option.some Jvm.ClassFile.FieldType.int)) ∈ TB := tw 1413 (by decide +kernel) (by decide +kernel)
theorem wd_1417 : (Jvm.Cond.methodLink "NineRiverLaw" (22 : Nat) yX12_of) ∈ TB := tw 1417 (by decide +kernel) (by decide +kernel)
theorem wd_1418 : (Jvm.Cond.instanceMethod yX12_of) ∈ TB := tw 1418 (by decide +kernel) (by decide +kernel)
theorem wd_1419 : (Cond.selects RX12 yX12_of yX12_of) ∈ TB := tw 1419 (by decide +kernel) (by decide +kernel)
theorem wd_1420 : (Cond.code yX12_of cX12_of 3 (Option.some Jvm.ClassFile.FieldType.int)) ∈ TB := tw 1420 (by decide +kernel) (by decide +kernel)
theorem wd_1421 : (Jvm.Cond.methodLink "NineRiverLaw" (27 : Nat) yX12_strike) ∈ TB := tw 1421 (by decide +kernel) (by decide +kernel)
theorem wd_1422 : (Jvm.Cond.instanceMethod yX12_strike) ∈ TB := tw 1422 (by decide +kernel) (by decide +kernel)
theorem wd_1423 : (Cond.selects RX12 yX12_strike yX12_strike) ∈ TB := tw 1423 (by decide +kernel) (by decide +kernel)
theorem wd_1424 : (Cond.code yX12_strike cX12_strike 6 (Option.some Jvm.ClassFile.FieldType.int)) ∈ TB := tw 1424 (by decide +kernel) (by decide +kernel)
theorem wd_1431 : (Jvm.Cond.methodLink "NineRiverLaw" (31 : Nat) yX12_gate) ∈ TB := tw 1431 (by decide +kernel) (by decide +kernel)
theorem wd_1432 : (Jvm.Cond.instanceMethod yX12_gate) ∈ TB := tw 1432 (by decide +kernel) (by decide +kernel)
theorem wd_1433 : (Cond.selects RX12 yX12_gate yX12_gate) ∈ TB := tw 1433 (by decide +kernel) (by decide +kernel)
theorem wd_1434 : (Cond.code yX12_gate cX12_gate 4 (Option.some Jvm.ClassFile.FieldType.int)) ∈ TB := tw 1434 (by decide +kernel) (by decide +kernel)
theorem wd_1439 : (Jvm.Cond.methodLink "NineRiverLaw" (36 : Nat) yX12_open) ∈ TB := tw 1439 (by decide +kernel) (by decide +kernel)
theorem wd_1440 : (Jvm.Cond.instanceMethod yX12_open) ∈ TB := tw 1440 (by decide +kernel) (by decide +kernel)
theorem wd_1441 : (Cond.selects RX12 yX12_open yX12_open) ∈ TB := tw 1441 (by decide +kernel) (by decide +kernel)
theorem wd_1442 : (Cond.code yX12_open cX12_open 3 (Option.some Jvm.ClassFile.FieldType.int)) ∈ TB := tw 1442 (by decide +kernel) (by decide +kernel)
theorem wd_1443 : (Jvm.Cond.methodLink "NineRiverLaw" (40 : Nat) yX12_mill) ∈ TB := tw 1443 (by decide +kernel) (by decide +kernel)
theorem wd_1444 : (Jvm.Cond.instanceMethod yX12_mill) ∈ TB := tw 1444 (by decide +kernel) (by decide +kernel)
theorem wd_1445 : (Cond.selects RX12 yX12_mill yX12_mill) ∈ TB := tw 1445 (by decide +kernel) (by decide +kernel)
theorem wd_1446 : (Cond.code yX12_mill cX12_mill 2 (Option.some Jvm.ClassFile.FieldType.int)) ∈ TB := tw 1446 (by decide +kernel) (by decide +kernel)
theorem wd_1447 : (Jvm.Cond.methodLink "NineRiverLaw" (48 : Nat) yX12_terms) ∈ TB := tw 1447 (by decide +kernel) (by decide +kernel)
theorem wd_1448 : (Jvm.Cond.instanceMethod yX12_terms) ∈ TB := tw 1448 (by decide +kernel) (by decide +kernel)
theorem wd_1449 : (Cond.selects RX12 yX12_terms yX12_terms) ∈ TB := tw 1449 (by decide +kernel) (by decide +kernel)
theorem wd_1450 : (Cond.code yX12_terms cX12_terms 4 (Option.some Jvm.ClassFile.FieldType.int)) ∈ TB := tw 1450 (by decide +kernel) (by decide +kernel)
theorem wd_1451 : (Jvm.Cond.methodLink "NineRiverLaw" (62 : Nat) yX12_row) ∈ TB := tw 1451 (by decide +kernel) (by decide +kernel)
theorem wd_1452 : (Jvm.Cond.instanceMethod yX12_row) ∈ TB := tw 1452 (by decide +kernel) (by decide +kernel)
theorem wd_1453 : (Cond.selects RX12 yX12_row yX12_row) ∈ TB := tw 1453 (by decide +kernel) (by decide +kernel)
theorem wd_1454 : (Cond.code yX12_row cX12_row 5 (Option.some Jvm.ClassFile.FieldType.int)) ∈ TB := tw 1454 (by decide +kernel) (by decide +kernel)
theorem wd_1548 : (Jvm.Cond.methodLink "NineRiverLaw" (66 : Nat) yX12_foam) ∈ TB := tw 1548 (by decide +kernel) (by decide +kernel)
theorem wd_1549 : (Jvm.Cond.instanceMethod yX12_foam) ∈ TB := tw 1549 (by decide +kernel) (by decide +kernel)
theorem wd_1550 : (Cond.selects RX12 yX12_foam yX12_foam) ∈ TB := tw 1550 (by decide +kernel) (by decide +kernel)
theorem wd_1551 : (Cond.code yX12_foam cX12_foam 1 (Option.some Jvm.ClassFile.FieldType.int)) ∈ TB := tw 1551 (by decide +kernel) (by decide +kernel)
theorem wd_1552 : (Jvm.Cond.methodLink "NineRiverLaw" (53 : Nat) yX12_feed) ∈ TB := tw 1552 (by decide +kernel) (by decide +kernel)
theorem wd_1553 : (Jvm.Cond.instanceMethod yX12_feed) ∈ TB := tw 1553 (by decide +kernel) (by decide +kernel)
theorem wd_1554 : (Cond.selects RX12 yX12_feed yX12_feed) ∈ TB := tw 1554 (by decide +kernel) (by decide +kernel)
theorem wd_1555 : (Cond.code yX12_feed cX12_feed 7 (Option.some Jvm.ClassFile.FieldType.int)) ∈ TB := tw 1555 (by decide +kernel) (by decide +kernel)
theorem wd_1556 : (Jvm.Cond.methodLink "NineRiverLaw" (57 : Nat) yX12_end) ∈ TB := tw 1556 (by decide +kernel) (by decide +kernel)
theorem wd_1557 : (Jvm.Cond.instanceMethod yX12_end) ∈ TB := tw 1557 (by decide +kernel) (by decide +kernel)
theorem wd_1558 : (Cond.selects RX12 yX12_end yX12_end) ∈ TB := tw 1558 (by decide +kernel) (by decide +kernel)
theorem wd_1559 : (Cond.code yX12_end cX12_end 2 (Option.some Jvm.ClassFile.FieldType.int)) ∈ TB := tw 1559 (by decide +kernel) (by decide +kernel)
theorem wd_1560 : (Jvm.Cond.methodLink "NineRiverLaw" (70 : Nat) yX12_law) ∈ TB := tw 1560 (by decide +kernel) (by decide +kernel)
theorem wd_1561 : (Jvm.Cond.instanceMethod yX12_law) ∈ TB := tw 1561 (by decide +kernel) (by decide +kernel)
theorem wd_1562 : (Cond.selects RX12 yX12_law yX12_law) ∈ TB := tw 1562 (by decide +kernel) (by decide +kernel)
theorem wd_1563 : (Cond.code yX12_law cX12_law 3 (Option.some Jvm.ClassFile.FieldType.int)) ∈ TB := tw 1563 (by decide +kernel) (by decide +kernel)
theorem wd_1631 : (Jvm.Cond.methodLink "NineRiverLaw" (74 : Nat) yX12_fault) ∈ TB := tw 1631 (by decide +kernel) (by decide +kernel)
theorem wd_1632 : (Jvm.Cond.instanceMethod yX12_fault) ∈ TB := tw 1632 (by decide +kernel) (by decide +kernel)
theorem wd_1633 : (Cond.selects RX12 yX12_fault yX12_fault) ∈ TB := tw 1633 (by decide +kernel) (by decide +kernel)
theorem wd_1634 : (Cond.code yX12_fault cX12_fault 1 (Option.some Jvm.ClassFile.FieldType.int)) ∈ TB := tw 1634 (by decide +kernel) (by decide +kernel)
theorem wd_1635 : (Jvm.Cond.methodLink "NineRiverLaw" (78 : Nat) yX12_force) ∈ TB := tw 1635 (by decide +kernel) (by decide +kernel)
theorem wd_1636 : (Jvm.Cond.instanceMethod yX12_force) ∈ TB := tw 1636 (by decide +kernel) (by decide +kernel)
theorem wd_1637 : (Cond.selects RX12 yX12_force yX12_force) ∈ TB := tw 1637 (by decide +kernel) (by decide +kernel)
theorem wd_1638 : (Cond.code yX12_force cX12_force 3 (Option.some Jvm.ClassFile.FieldType.int)) ∈ TB := tw 1638 (by decide +kernel) (by decide +kernel)
theorem wd_1639 : (Jvm.Cond.methodLink "NineRiverLaw" (82 : Nat) yX12_flow) ∈ TB := tw 1639 (by decide +kernel) (by decide +kernel)
theorem wd_1640 : (Jvm.Cond.instanceMethod yX12_flow) ∈ TB := tw 1640 (by decide +kernel) (by decide +kernel)
theorem wd_1641 : (Cond.selects RX12 yX12_flow yX12_flow) ∈ TB := tw 1641 (by decide +kernel) (by decide +kernel)
theorem wd_1642 : (Cond.code yX12_flow cX12_flow 3 (Option.some Jvm.ClassFile.FieldType.int)) ∈ TB := tw 1642 (by decide +kernel) (by decide +kernel)
theorem wd_1643 : (Jvm.Cond.methodLink "NineRiverLaw" (86 : Nat) yX12_asks) ∈ TB := tw 1643 (by decide +kernel) (by decide +kernel)
theorem wd_1644 : (Jvm.Cond.instanceMethod yX12_asks) ∈ TB := tw 1644 (by decide +kernel) (by decide +kernel)
theorem wd_1645 : (Cond.selects RX12 yX12_asks yX12_asks) ∈ TB := tw 1645 (by decide +kernel) (by decide +kernel)
theorem wd_1646 : (Cond.code yX12_asks cX12_asks 5 (Option.some Jvm.ClassFile.FieldType.int)) ∈ TB := tw 1646 (by decide +kernel) (by decide +kernel)
theorem wd_1647 : (Jvm.Cond.methodLink "NineRiverLaw" (44 : Nat) yX12_grinds) ∈ TB := tw 1647 (by decide +kernel) (by decide +kernel)
theorem wd_1648 : (Jvm.Cond.instanceMethod yX12_grinds) ∈ TB := tw 1648 (by decide +kernel) (by decide +kernel)
theorem wd_1649 : (Cond.selects RX12 yX12_grinds yX12_grinds) ∈ TB := tw 1649 (by decide +kernel) (by decide +kernel)
theorem wd_1650 : (Cond.code yX12_grinds cX12_grinds 6 (Option.some Jvm.ClassFile.FieldType.int)) ∈ TB := tw 1650 (by decide +kernel) (by decide +kernel)
theorem wd_1651 : (Jvm.Cond.methodLink "NineRiverLaw" (90 : Nat) yX12_where) ∈ TB := tw 1651 (by decide +kernel) (by decide +kernel)
theorem wd_1652 : (Jvm.Cond.instanceMethod yX12_where) ∈ TB := tw 1652 (by decide +kernel) (by decide +kernel)
theorem wd_1653 : (Cond.selects RX12 yX12_where yX12_where) ∈ TB := tw 1653 (by decide +kernel) (by decide +kernel)
theorem wd_1654 : (Cond.code yX12_where cX12_where 4 (Option.some Jvm.ClassFile.FieldType.int)) ∈ TB := tw 1654 (by decide +kernel) (by decide +kernel)
theorem wd_1662 : (Jvm.Cond.methodLink "NineRiverLaw" (94 : Nat) yX12_below) ∈ TB := tw 1662 (by decide +kernel) (by decide +kernel)
theorem wd_1663 : (Jvm.Cond.instanceMethod yX12_below) ∈ TB := tw 1663 (by decide +kernel) (by decide +kernel)
theorem wd_1664 : (Cond.selects RX12 yX12_below yX12_below) ∈ TB := tw 1664 (by decide +kernel) (by decide +kernel)
theorem wd_1665 : (Cond.code yX12_below cX12_below 7 (Option.some Jvm.ClassFile.FieldType.int)) ∈ TB := tw 1665 (by decide +kernel) (by decide +kernel)
theorem wd_1666 : (Jvm.Cond.methodLink "NineRiverLaw" (98 : Nat) yX12_sources) ∈ TB := tw 1666 (by decide +kernel) (by decide +kernel)
theorem wd_1667 : (Jvm.Cond.instanceMethod yX12_sources) ∈ TB := tw 1667 (by decide +kernel) (by decide +kernel)
theorem wd_1668 : (Cond.selects RX12 yX12_sources yX12_sources) ∈ TB := tw 1668 (by decide +kernel) (by decide +kernel)
theorem wd_1669 : (Cond.code yX12_sources cX12_sources 6 (Option.some Jvm.ClassFile.FieldType.int)) ∈ TB := tw 1669 (by decide +kernel) (by decide +kernel)
theorem wd_1673 : (Jvm.Cond.methodLink "NineRiverLaw" (102 : Nat) yX12_boat) ∈ TB := tw 1673 (by decide +kernel) (by decide +kernel)
theorem wd_1674 : (Jvm.Cond.instanceMethod yX12_boat) ∈ TB := tw 1674 (by decide +kernel) (by decide +kernel)
theorem wd_1675 : (Cond.selects RX12 yX12_boat yX12_boat) ∈ TB := tw 1675 (by decide +kernel) (by decide +kernel)
theorem wd_1676 : (Cond.code yX12_boat cX12_boat 3 (Option.some Jvm.ClassFile.FieldType.int)) ∈ TB := tw 1676 (by decide +kernel) (by decide +kernel)
theorem wd_1677 : (Jvm.Cond.methodLink "NineRiverLaw" (106 : Nat) yX12_moor) ∈ TB := tw 1677 (by decide +kernel) (by decide +kernel)
theorem wd_1678 : (Jvm.Cond.instanceMethod yX12_moor) ∈ TB := tw 1678 (by decide +kernel) (by decide +kernel)
theorem wd_1679 : (Cond.selects RX12 yX12_moor yX12_moor) ∈ TB := tw 1679 (by decide +kernel) (by decide +kernel)
theorem wd_1680 : (Cond.code yX12_moor cX12_moor 4 (Option.some Jvm.ClassFile.FieldType.int)) ∈ TB := tw 1680 (by decide +kernel) (by decide +kernel)
theorem wd_1685 : (Jvm.Cond.methodLink "NineRiverLaw" (110 : Nat) yX12_sails) ∈ TB := tw 1685 (by decide +kernel) (by decide +kernel)
theorem wd_1686 : (Jvm.Cond.instanceMethod yX12_sails) ∈ TB := tw 1686 (by decide +kernel) (by decide +kernel)
theorem wd_1687 : (Cond.selects RX12 yX12_sails yX12_sails) ∈ TB := tw 1687 (by decide +kernel) (by decide +kernel)
theorem wd_1688 : (Cond.code yX12_sails cX12_sails 5 (Option.some Jvm.ClassFile.FieldType.int)) ∈ TB := tw 1688 (by decide +kernel) (by decide +kernel)
theorem wd_1701 : (Jvm.Cond.methodLink "NineRiverLaw" (114 : Nat) yX12_meet) ∈ TB := tw 1701 (by decide +kernel) (by decide +kernel)
theorem wd_1702 : (Jvm.Cond.instanceMethod yX12_meet) ∈ TB := tw 1702 (by decide +kernel) (by decide +kernel)
theorem wd_1703 : (Cond.selects RX12 yX12_meet yX12_meet) ∈ TB := tw 1703 (by decide +kernel) (by decide +kernel)
theorem wd_1704 : (Cond.code yX12_meet cX12_meet 6 (Option.some Jvm.ClassFile.FieldType.int)) ∈ TB := tw 1704 (by decide +kernel) (by decide +kernel)
theorem wd_1705 : (Jvm.Cond.methodLink "NineRiverLaw" (119 : Nat) yX12_pour) ∈ TB := tw 1705 (by decide +kernel) (by decide +kernel)
theorem wd_1706 : (Jvm.Cond.instanceMethod yX12_pour) ∈ TB := tw 1706 (by decide +kernel) (by decide +kernel)
theorem wd_1707 : (Cond.selects RX12 yX12_pour yX12_pour) ∈ TB := tw 1707 (by decide +kernel) (by decide +kernel)
theorem wd_1708 : (Cond.code yX12_pour cX12_pour 5 (Option.some Jvm.ClassFile.FieldType.int)) ∈ TB := tw 1708 (by decide +kernel) (by decide +kernel)
theorem wd_1709 : (Jvm.Cond.methodLink "NineRiverLaw" (123 : Nat) yX12_undo) ∈ TB := tw 1709 (by decide +kernel) (by decide +kernel)
theorem wd_1710 : (Jvm.Cond.instanceMethod yX12_undo) ∈ TB := tw 1710 (by decide +kernel) (by decide +kernel)
theorem wd_1711 : (Cond.selects RX12 yX12_undo yX12_undo) ∈ TB := tw 1711 (by decide +kernel) (by decide +kernel)
theorem wd_1712 : (Cond.code yX12_undo cX12_undo 1 (Option.some Jvm.ClassFile.FieldType.int)) ∈ TB := tw 1712 (by decide +kernel) (by decide +kernel)
theorem wd_1713 : (Jvm.Cond.methodLink "NineRiverLaw" (127 : Nat) yX12_dye) ∈ TB := tw 1713 (by decide +kernel) (by decide +kernel)
theorem wd_1714 : (Jvm.Cond.instanceMethod yX12_dye) ∈ TB := tw 1714 (by decide +kernel) (by decide +kernel)
theorem wd_1715 : (Cond.selects RX12 yX12_dye yX12_dye) ∈ TB := tw 1715 (by decide +kernel) (by decide +kernel)
theorem wd_1716 : (Cond.code yX12_dye cX12_dye 4 (Option.some Jvm.ClassFile.FieldType.int)) ∈ TB := tw 1716 (by decide +kernel) (by decide +kernel)
theorem wd_1721 : (Jvm.Cond.methodLink "NineRiverLaw" (131 : Nat) yX12_comes) ∈ TB := tw 1721 (by decide +kernel) (by decide +kernel)
theorem wd_1722 : (Jvm.Cond.instanceMethod yX12_comes) ∈ TB := tw 1722 (by decide +kernel) (by decide +kernel)
theorem wd_1723 : (Cond.selects RX12 yX12_comes yX12_comes) ∈ TB := tw 1723 (by decide +kernel) (by decide +kernel)
theorem wd_1724 : (Cond.code yX12_comes cX12_comes 5 (Option.some Jvm.ClassFile.FieldType.int)) ∈ TB := tw 1724 (by decide +kernel) (by decide +kernel)
theorem wd_1725 : (Jvm.Cond.methodLink "NineRiverLaw" (135 : Nat) yX12_most) ∈ TB := tw 1725 (by decide +kernel) (by decide +kernel)
theorem wd_1726 : (Jvm.Cond.instanceMethod yX12_most) ∈ TB := tw 1726 (by decide +kernel) (by decide +kernel)
theorem wd_1727 : (Cond.selects RX12 yX12_most yX12_most) ∈ TB := tw 1727 (by decide +kernel) (by decide +kernel)
theorem wd_1728 : (Cond.code yX12_most cX12_most 9 (Option.some Jvm.ClassFile.FieldType.int)) ∈ TB := tw 1728 (by decide +kernel) (by decide +kernel)
theorem wd_1729 : (Jvm.Cond.methodLink "NineRiverLaw" (139 : Nat) yX12_least) ∈ TB := tw 1729 (by decide +kernel) (by decide +kernel)
theorem wd_1730 : (Jvm.Cond.instanceMethod yX12_least) ∈ TB := tw 1730 (by decide +kernel) (by decide +kernel)
theorem wd_1731 : (Cond.selects RX12 yX12_least yX12_least) ∈ TB := tw 1731 (by decide +kernel) (by decide +kernel)
theorem wd_1732 : (Cond.code yX12_least cX12_least 6 (Option.some Jvm.ClassFile.FieldType.int)) ∈ TB := tw 1732 (by decide +kernel) (by decide +kernel)
theorem wd_1741 : (Jvm.Cond.methodLink "NineRiverLaw" (143 : Nat) yX12_sight) ∈ TB := tw 1741 (by decide +kernel) (by decide +kernel)
theorem wd_1742 : (Jvm.Cond.instanceMethod yX12_sight) ∈ TB := tw 1742 (by decide +kernel) (by decide +kernel)
theorem wd_1743 : (Cond.selects RX12 yX12_sight yX12_sight) ∈ TB := tw 1743 (by decide +kernel) (by decide +kernel)
theorem wd_1744 : (Cond.code yX12_sight cX12_sight 5 (Option.some Jvm.ClassFile.FieldType.int)) ∈ TB := tw 1744 (by decide +kernel) (by decide +kernel)
theorem wd_1745 : (Jvm.Cond.methodLink "NineRiverLaw" (147 : Nat) yX12_forget) ∈ TB := tw 1745 (by decide +kernel) (by decide +kernel)
theorem wd_1746 : (Jvm.Cond.instanceMethod yX12_forget) ∈ TB := tw 1746 (by decide +kernel) (by decide +kernel)
theorem wd_1747 : (Cond.selects RX12 yX12_forget yX12_forget) ∈ TB := tw 1747 (by decide +kernel) (by decide +kernel)
theorem wd_1748 : (Cond.code yX12_forget cX12_forget 1 (Option.some Jvm.ClassFile.FieldType.int)) ∈ TB := tw 1748 (by decide +kernel) (by decide +kernel)
theorem wd_1753 : (Jvm.Cond.methodLink "NineRiverLaw" (151 : Nat) yX12_so) ∈ TB := tw 1753 (by decide +kernel) (by decide +kernel)
theorem wd_1754 : (Jvm.Cond.instanceMethod yX12_so) ∈ TB := tw 1754 (by decide +kernel) (by decide +kernel)
theorem wd_1755 : (Cond.selects RX12 yX12_so yX12_so) ∈ TB := tw 1755 (by decide +kernel) (by decide +kernel)
theorem wd_1756 : (Cond.code yX12_so cX12_so 3 (Option.some Jvm.ClassFile.FieldType.int)) ∈ TB := tw 1756 (by decide +kernel) (by decide +kernel)
theorem wd_1757 : (Jvm.Cond.methodLink "NineRiverLaw" (155 : Nat) yX12_suspects) ∈ TB := tw 1757 (by decide +kernel) (by decide +kernel)
theorem wd_1758 : (Jvm.Cond.instanceMethod yX12_suspects) ∈ TB := tw 1758 (by decide +kernel) (by decide +kernel)
theorem wd_1759 : (Cond.selects RX12 yX12_suspects yX12_suspects) ∈ TB := tw 1759 (by decide +kernel) (by decide +kernel)
theorem wd_1760 : (Cond.code yX12_suspects cX12_suspects 6 (Option.some Jvm.ClassFile.FieldType.int)) ∈ TB := tw 1760 (by decide +kernel) (by decide +kernel)
theorem wd_1769 : (Jvm.Cond.methodLink "NineRiverLaw" (159 : Nat) yX12_pairs) ∈ TB := tw 1769 (by decide +kernel) (by decide +kernel)
theorem wd_1770 : (Jvm.Cond.instanceMethod yX12_pairs) ∈ TB := tw 1770 (by decide +kernel) (by decide +kernel)
theorem wd_1771 : (Cond.selects RX12 yX12_pairs yX12_pairs) ∈ TB := tw 1771 (by decide +kernel) (by decide +kernel)
theorem wd_1772 : (Cond.code yX12_pairs cX12_pairs 6 (Option.some Jvm.ClassFile.FieldType.int)) ∈ TB := tw 1772 (by decide +kernel) (by decide +kernel)
theorem wd_1773 : (Jvm.Cond.methodLink "NineRiverLaw" (163 : Nat) yX12_job) ∈ TB := tw 1773 (by decide +kernel) (by decide +kernel)
theorem wd_1774 : (Jvm.Cond.instanceMethod yX12_job) ∈ TB := tw 1774 (by decide +kernel) (by decide +kernel)
theorem wd_1775 : (Cond.selects RX12 yX12_job yX12_job) ∈ TB := tw 1775 (by decide +kernel) (by decide +kernel)
theorem wd_1776 : (Cond.code yX12_job cX12_job 4 (Option.some Jvm.ClassFile.FieldType.int)) ∈ TB := tw 1776 (by decide +kernel) (by decide +kernel)
theorem wd_1777 : (Jvm.Cond.methodLink "NineRiverLaw" (167 : Nat) yX12_hang) ∈ TB := tw 1777 (by decide +kernel) (by decide +kernel)
theorem wd_1778 : (Jvm.Cond.instanceMethod yX12_hang) ∈ TB := tw 1778 (by decide +kernel) (by decide +kernel)
theorem wd_1779 : (Cond.selects RX12 yX12_hang yX12_hang) ∈ TB := tw 1779 (by decide +kernel) (by decide +kernel)
theorem wd_1780 : (Cond.code yX12_hang cX12_hang 1 (Option.some Jvm.ClassFile.FieldType.int)) ∈ TB := tw 1780 (by decide +kernel) (by decide +kernel)
theorem wd_1781 : (Jvm.Cond.methodLink "NineRiverLaw" (171 : Nat) yX12_laundry) ∈ TB := tw 1781 (by decide +kernel) (by decide +kernel)
theorem wd_1782 : (Jvm.Cond.instanceMethod yX12_laundry) ∈ TB := tw 1782 (by decide +kernel) (by decide +kernel)
theorem wd_1783 : (Cond.selects RX12 yX12_laundry yX12_laundry) ∈ TB := tw 1783 (by decide +kernel) (by decide +kernel)
theorem wd_1784 : (Cond.code yX12_laundry cX12_laundry 5 (Option.some Jvm.ClassFile.FieldType.int)) ∈ TB := tw 1784 (by decide +kernel) (by decide +kernel)
theorem wd_1796 : (Jvm.Cond.methodLink "NineRiverLaw" (175 : Nat) yX12_lovers) ∈ TB := tw 1796 (by decide +kernel) (by decide +kernel)
theorem wd_1797 : (Jvm.Cond.instanceMethod yX12_lovers) ∈ TB := tw 1797 (by decide +kernel) (by decide +kernel)
theorem wd_1798 : (Cond.selects RX12 yX12_lovers yX12_lovers) ∈ TB := tw 1798 (by decide +kernel) (by decide +kernel)
theorem wd_1799 : (Cond.code yX12_lovers cX12_lovers 10 (Option.some Jvm.ClassFile.FieldType.int)) ∈ TB := tw 1799 (by decide +kernel) (by decide +kernel)
theorem wd_1804 : (Jvm.Cond.methodLink "NineRiverLaw" (179 : Nat) yX12_duck) ∈ TB := tw 1804 (by decide +kernel) (by decide +kernel)
theorem wd_1805 : (Jvm.Cond.instanceMethod yX12_duck) ∈ TB := tw 1805 (by decide +kernel) (by decide +kernel)
theorem wd_1806 : (Cond.selects RX12 yX12_duck yX12_duck) ∈ TB := tw 1806 (by decide +kernel) (by decide +kernel)
theorem wd_1807 : (Cond.code yX12_duck cX12_duck 6 (Option.some Jvm.ClassFile.FieldType.int)) ∈ TB := tw 1807 (by decide +kernel) (by decide +kernel)
theorem wd_1808 : (Jvm.Cond.methodLink "NineRiverLaw" (183 : Nat) yX12_matters) ∈ TB := tw 1808 (by decide +kernel) (by decide +kernel)
theorem wd_1809 : (Jvm.Cond.instanceMethod yX12_matters) ∈ TB := tw 1809 (by decide +kernel) (by decide +kernel)
theorem wd_1810 : (Cond.selects RX12 yX12_matters yX12_matters) ∈ TB := tw 1810 (by decide +kernel) (by decide +kernel)
theorem wd_1811 : (Cond.code yX12_matters cX12_matters 10 (Option.some Jvm.ClassFile.FieldType.int)) ∈ TB := tw 1811 (by decide +kernel) (by decide +kernel)
theorem wd_1812 : (Jvm.Cond.methodLink "NineRiverLaw" (187 : Nat) yX12_wish) ∈ TB := tw 1812 (by decide +kernel) (by decide +kernel)
theorem wd_1813 : (Jvm.Cond.instanceMethod yX12_wish) ∈ TB := tw 1813 (by decide +kernel) (by decide +kernel)
theorem wd_1814 : (Cond.selects RX12 yX12_wish yX12_wish) ∈ TB := tw 1814 (by decide +kernel) (by decide +kernel)
theorem wd_1815 : (Cond.code yX12_wish cX12_wish 5 (Option.some Jvm.ClassFile.FieldType.int)) ∈ TB := tw 1815 (by decide +kernel) (by decide +kernel)
theorem wd_1816 : (Jvm.Cond.methodLink "NineRiverLaw" (191 : Nat) yX12_drop) ∈ TB := tw 1816 (by decide +kernel) (by decide +kernel)
theorem wd_1817 : (Jvm.Cond.instanceMethod yX12_drop) ∈ TB := tw 1817 (by decide +kernel) (by decide +kernel)
theorem wd_1818 : (Cond.selects RX12 yX12_drop yX12_drop) ∈ TB := tw 1818 (by decide +kernel) (by decide +kernel)
theorem wd_1819 : (Cond.code yX12_drop cX12_drop 1 (Option.some Jvm.ClassFile.FieldType.int)) ∈ TB := tw 1819 (by decide +kernel) (by decide +kernel)
theorem wd_1820 : (Jvm.Cond.methodLink "NineRiverLaw" (195 : Nat) yX12_granted) ∈ TB := tw 1820 (by decide +kernel) (by decide +kernel)
theorem wd_1821 : (Jvm.Cond.instanceMethod yX12_granted) ∈ TB := tw 1821 (by decide +kernel) (by decide +kernel)
theorem wd_1822 : (Cond.selects RX12 yX12_granted yX12_granted) ∈ TB := tw 1822 (by decide +kernel) (by decide +kernel)
theorem wd_1823 : (Cond.code yX12_granted cX12_granted 1 (Option.some Jvm.ClassFile.FieldType.int)) ∈ TB := tw 1823 (by decide +kernel) (by decide +kernel)
theorem wd_1828 : (Jvm.Cond.methodLink "NineRiverLaw" (199 : Nat) yX12_best) ∈ TB := tw 1828 (by decide +kernel) (by decide +kernel)
theorem wd_1829 : (Jvm.Cond.instanceMethod yX12_best) ∈ TB := tw 1829 (by decide +kernel) (by decide +kernel)
theorem wd_1830 : (Cond.selects RX12 yX12_best yX12_best) ∈ TB := tw 1830 (by decide +kernel) (by decide +kernel)
theorem wd_1831 : (Cond.code yX12_best cX12_best 3 (Option.some Jvm.ClassFile.FieldType.int)) ∈ TB := tw 1831 (by decide +kernel) (by decide +kernel)
theorem wd_1843 : (Jvm.Cond.methodLink "NineRiverLaw" (203 : Nat) yX12_set) ∈ TB := tw 1843 (by decide +kernel) (by decide +kernel)
theorem wd_1844 : (Jvm.Cond.instanceMethod yX12_set) ∈ TB := tw 1844 (by decide +kernel) (by decide +kernel)
theorem wd_1845 : (Cond.selects RX12 yX12_set yX12_set) ∈ TB := tw 1845 (by decide +kernel) (by decide +kernel)
theorem wd_1846 : (Cond.code yX12_set cX12_set 2 (Option.some Jvm.ClassFile.FieldType.int)) ∈ TB := tw 1846 (by decide +kernel) (by decide +kernel)
theorem wd_1847 : (Jvm.Cond.methodLink "NineRiverLaw" (207 : Nat) yX12_week) ∈ TB := tw 1847 (by decide +kernel) (by decide +kernel)
theorem wd_1848 : (Jvm.Cond.instanceMethod yX12_week) ∈ TB := tw 1848 (by decide +kernel) (by decide +kernel)
theorem wd_1849 : (Cond.selects RX12 yX12_week yX12_week) ∈ TB := tw 1849 (by decide +kernel) (by decide +kernel)
theorem wd_1850 : (Cond.code yX12_week cX12_week 7 (Option.some Jvm.ClassFile.FieldType.int)) ∈ TB := tw 1850 (by decide +kernel) (by decide +kernel)
theorem wd_1858 : (Jvm.Cond.methodLink "NineRiverLaw" (211 : Nat) yX12_drawn) ∈ TB := tw 1858 (by decide +kernel) (by decide +kernel)
theorem wd_1859 : (Jvm.Cond.instanceMethod yX12_drawn) ∈ TB := tw 1859 (by decide +kernel) (by decide +kernel)
theorem wd_1860 : (Cond.selects RX12 yX12_drawn yX12_drawn) ∈ TB := tw 1860 (by decide +kernel) (by decide +kernel)
theorem wd_1861 : (Cond.code yX12_drawn cX12_drawn 2 (Option.some Jvm.ClassFile.FieldType.int)) ∈ TB := tw 1861 (by decide +kernel) (by decide +kernel)
theorem wd_1862 : (Jvm.Cond.methodLink "NineRiverLaw" (223 : Nat) yX12_count) ∈ TB := tw 1862 (by decide +kernel) (by decide +kernel)
theorem wd_1863 : (Jvm.Cond.instanceMethod yX12_count) ∈ TB := tw 1863 (by decide +kernel) (by decide +kernel)
theorem wd_1864 : (Cond.selects RX12 yX12_count yX12_count) ∈ TB := tw 1864 (by decide +kernel) (by decide +kernel)
theorem wd_1865 : (Cond.code yX12_count cX12_count 4 (Option.some Jvm.ClassFile.FieldType.int)) ∈ TB := tw 1865 (by decide +kernel) (by decide +kernel)
theorem wd_1866 : (Jvm.Cond.methodLink "NineRiverLaw" (227 : Nat) yX12_status) ∈ TB := tw 1866 (by decide +kernel) (by decide +kernel)
theorem wd_1867 : (Jvm.Cond.instanceMethod yX12_status) ∈ TB := tw 1867 (by decide +kernel) (by decide +kernel)
theorem wd_1868 : (Cond.selects RX12 yX12_status yX12_status) ∈ TB := tw 1868 (by decide +kernel) (by decide +kernel)
theorem wd_1869 : (Cond.code yX12_status cX12_status 1 (Option.some Jvm.ClassFile.FieldType.int)) ∈ TB := tw 1869 (by decide +kernel) (by decide +kernel)
theorem wd_22 : (Jvm.Cond.classLink "NineRiverLaw" (7 : Nat) "NineRiver") ∈ TB := tw 22 (by decide +kernel) (by decide +kernel)
theorem wd_23 : (Cond.instantiable RX11 (17 : Nat)) ∈ TB := tw 23 (by decide +kernel) (by decide +kernel)
theorem wd_24 : (Jvm.Cond.methodLink "NineRiverLaw" (9 : Nat) yX11_init) ∈ TB := tw 24 (by decide +kernel) (by decide +kernel)
theorem wd_25 : (Jvm.Cond.instanceMethod yX11_init) ∈ TB := tw 25 (by decide +kernel) (by decide +kernel)
theorem wd_26 : (Cond.code yX11_init cX11_init 1 (Option.none : Option Jvm.ClassFile.FieldType)) ∈ TB := tw 26 (by decide +kernel) (by decide +kernel)
theorem wd_397 : (Jvm.Cond.methodLink "NineRiverLaw" (13 : Nat) yX11_pump) ∈ TB := tw 397 (by decide +kernel) (by decide +kernel)
theorem wd_398 : (Jvm.Cond.instanceMethod yX11_pump) ∈ TB := tw 398 (by decide +kernel) (by decide +kernel)
theorem wd_399 : (Cond.selects RX11 yX11_pump yX11_pump) ∈ TB := tw 399 (by decide +kernel) (by decide +kernel)
theorem wd_400 : (Cond.code yX11_pump cX11_pump 7 (Option.some Jvm.ClassFile.FieldType.int)) ∈ TB := tw 400 (by decide +kernel) (by decide +kernel)
theorem wd_451 : (Jvm.Cond.methodLink "NineRiverLaw" (18 : Nat) yX11_of) ∈ TB := tw 451 (by decide +kernel) (by decide +kernel)
theorem wd_452 : (Jvm.Cond.instanceMethod yX11_of) ∈ TB := tw 452 (by decide +kernel) (by decide +kernel)
theorem wd_453 : (Cond.selects RX11 yX11_of yX11_of) ∈ TB := tw 453 (by decide +kernel) (by decide +kernel)
theorem wd_454 : (Cond.code yX11_of cX11_of 3 (Option.some Jvm.ClassFile.FieldType.int)) ∈ TB := tw 454 (by decide +kernel) (by decide +kernel)
theorem wd_459 : (Jvm.Cond.methodLink "NineRiverLaw" (23 : Nat) yX11_strike) ∈ TB := tw 459 (by decide +kernel) (by decide +kernel)
theorem wd_460 : (Jvm.Cond.instanceMethod yX11_strike) ∈ TB := tw 460 (by decide +kernel) (by decide +kernel)
theorem wd_461 : (Cond.selects RX11 yX11_strike yX11_strike) ∈ TB := tw 461 (by decide +kernel) (by decide +kernel)
theorem wd_462 : (Cond.code yX11_strike cX11_strike 5 (Option.some Jvm.ClassFile.FieldType.int)) ∈ TB := tw 462 (by decide +kernel) (by decide +kernel)
theorem wd_477 : (Jvm.Cond.methodLink "NineRiverLaw" (28 : Nat) yX11_gate) ∈ TB := tw 477 (by decide +kernel) (by decide +kernel)
theorem wd_478 : (Jvm.Cond.instanceMethod yX11_gate) ∈ TB := tw 478 (by decide +kernel) (by decide +kernel)
theorem wd_479 : (Cond.selects RX11 yX11_gate yX11_gate) ∈ TB := tw 479 (by decide +kernel) (by decide +kernel)
theorem wd_480 : (Cond.code yX11_gate cX11_gate 4 (Option.some Jvm.ClassFile.FieldType.int)) ∈ TB := tw 480 (by decide +kernel) (by decide +kernel)
theorem wd_490 : (Jvm.Cond.methodLink "NineRiverLaw" (32 : Nat) yX11_open) ∈ TB := tw 490 (by decide +kernel) (by decide +kernel)
theorem wd_491 : (Jvm.Cond.instanceMethod yX11_open) ∈ TB := tw 491 (by decide +kernel) (by decide +kernel)
theorem wd_492 : (Cond.selects RX11 yX11_open yX11_open) ∈ TB := tw 492 (by decide +kernel) (by decide +kernel)
theorem wd_493 : (Cond.code yX11_open cX11_open 2 (Option.some Jvm.ClassFile.FieldType.int)) ∈ TB := tw 493 (by decide +kernel) (by decide +kernel)
theorem wd_510 : (Jvm.Cond.methodLink "NineRiverLaw" (37 : Nat) yX11_mill) ∈ TB := tw 510 (by decide +kernel) (by decide +kernel)
theorem wd_511 : (Jvm.Cond.instanceMethod yX11_mill) ∈ TB := tw 511 (by decide +kernel) (by decide +kernel)
theorem wd_512 : (Cond.selects RX11 yX11_mill yX11_mill) ∈ TB := tw 512 (by decide +kernel) (by decide +kernel)
theorem wd_513 : (Cond.code yX11_mill cX11_mill 2 (Option.some Jvm.ClassFile.FieldType.int)) ∈ TB := tw 513 (by decide +kernel) (by decide +kernel)
theorem wd_514 : (Jvm.Cond.methodLink "NineRiverLaw" (41 : Nat) yX11_grinds) ∈ TB := tw 514 (by decide +kernel) (by decide +kernel)
theorem wd_515 : (Jvm.Cond.instanceMethod yX11_grinds) ∈ TB := tw 515 (by decide +kernel) (by decide +kernel)
theorem wd_516 : (Cond.selects RX11 yX11_grinds yX11_grinds) ∈ TB := tw 516 (by decide +kernel) (by decide +kernel)
theorem wd_517 : (Cond.code yX11_grinds cX11_grinds 4 (Option.some Jvm.ClassFile.FieldType.int)) ∈ TB := tw 517 (by decide +kernel) (by decide +kernel)
theorem wd_593 : (Jvm.Cond.methodLink "NineRiverLaw" (45 : Nat) yX11_terms) ∈ TB := tw 593 (by decide +kernel) (by decide +kernel)
theorem wd_594 : (Jvm.Cond.instanceMethod yX11_terms) ∈ TB := tw 594 (by decide +kernel) (by decide +kernel)
theorem wd_595 : (Cond.selects RX11 yX11_terms yX11_terms) ∈ TB := tw 595 (by decide +kernel) (by decide +kernel)
theorem wd_596 : (Cond.code yX11_terms cX11_terms 6 (Option.some Jvm.ClassFile.FieldType.int)) ∈ TB := tw 596 (by decide +kernel) (by decide +kernel)
theorem wd_597 : (Jvm.Cond.methodLink "NineRiverLaw" (49 : Nat) yX11_feed) ∈ TB := tw 597 (by decide +kernel) (by decide +kernel)
theorem wd_598 : (Jvm.Cond.instanceMethod yX11_feed) ∈ TB := tw 598 (by decide +kernel) (by decide +kernel)
theorem wd_599 : (Cond.selects RX11 yX11_feed yX11_feed) ∈ TB := tw 599 (by decide +kernel) (by decide +kernel)
theorem wd_600 : (Cond.code yX11_feed cX11_feed 6 (Option.some Jvm.ClassFile.FieldType.int)) ∈ TB := tw 600 (by decide +kernel) (by decide +kernel)
theorem wd_605 : (Jvm.Cond.methodLink "NineRiverLaw" (54 : Nat) yX11_end) ∈ TB := tw 605 (by decide +kernel) (by decide +kernel)
theorem wd_606 : (Jvm.Cond.instanceMethod yX11_end) ∈ TB := tw 606 (by decide +kernel) (by decide +kernel)
theorem wd_607 : (Cond.selects RX11 yX11_end yX11_end) ∈ TB := tw 607 (by decide +kernel) (by decide +kernel)
theorem wd_608 : (Cond.code yX11_end cX11_end 2 (Option.some Jvm.ClassFile.FieldType.int)) ∈ TB := tw 608 (by decide +kernel) (by decide +kernel)
theorem wd_609 : (Jvm.Cond.methodLink "NineRiverLaw" (58 : Nat) yX11_row) ∈ TB := tw 609 (by decide +kernel) (by decide +kernel)
theorem wd_610 : (Jvm.Cond.instanceMethod yX11_row) ∈ TB := tw 610 (by decide +kernel) (by decide +kernel)
theorem wd_611 : (Cond.selects RX11 yX11_row yX11_row) ∈ TB := tw 611 (by decide +kernel) (by decide +kernel)
theorem wd_612 : (Cond.code yX11_row cX11_row 4 (Option.some Jvm.ClassFile.FieldType.int)) ∈ TB := tw 612 (by decide +kernel) (by decide +kernel)
theorem wd_635 : (Jvm.Cond.methodLink "NineRiverLaw" (63 : Nat) yX11_foam) ∈ TB := tw 635 (by decide +kernel) (by decide +kernel)
theorem wd_636 : (Jvm.Cond.instanceMethod yX11_foam) ∈ TB := tw 636 (by decide +kernel) (by decide +kernel)
theorem wd_637 : (Cond.selects RX11 yX11_foam yX11_foam) ∈ TB := tw 637 (by decide +kernel) (by decide +kernel)
theorem wd_638 : (Cond.code yX11_foam cX11_foam 1 (Option.some Jvm.ClassFile.FieldType.int)) ∈ TB := tw 638 (by decide +kernel) (by decide +kernel)
theorem wd_639 : (Jvm.Cond.methodLink "NineRiverLaw" (67 : Nat) yX11_law) ∈ TB := tw 639 (by decide +kernel) (by decide +kernel)
theorem wd_640 : (Jvm.Cond.instanceMethod yX11_law) ∈ TB := tw 640 (by decide +kernel) (by decide +kernel)
theorem wd_641 : (Cond.selects RX11 yX11_law yX11_law) ∈ TB := tw 641 (by decide +kernel) (by decide +kernel)
theorem wd_642 : (Cond.code yX11_law cX11_law 3 (Option.some Jvm.ClassFile.FieldType.int)) ∈ TB := tw 642 (by decide +kernel) (by decide +kernel)
theorem wd_793 : (Jvm.Cond.methodLink "NineRiverLaw" (71 : Nat) yX11_fault) ∈ TB := tw 793 (by decide +kernel) (by decide +kernel)
theorem wd_794 : (Jvm.Cond.instanceMethod yX11_fault) ∈ TB := tw 794 (by decide +kernel) (by decide +kernel)
theorem wd_795 : (Cond.selects RX11 yX11_fault yX11_fault) ∈ TB := tw 795 (by decide +kernel) (by decide +kernel)
theorem wd_796 : (Cond.code yX11_fault cX11_fault 1 (Option.some Jvm.ClassFile.FieldType.int)) ∈ TB := tw 796 (by decide +kernel) (by decide +kernel)
theorem wd_797 : (Jvm.Cond.methodLink "NineRiverLaw" (75 : Nat) yX11_force) ∈ TB := tw 797 (by decide +kernel) (by decide +kernel)
theorem wd_798 : (Jvm.Cond.instanceMethod yX11_force) ∈ TB := tw 798 (by decide +kernel) (by decide +kernel)
theorem wd_799 : (Cond.selects RX11 yX11_force yX11_force) ∈ TB := tw 799 (by decide +kernel) (by decide +kernel)
theorem wd_800 : (Cond.code yX11_force cX11_force 3 (Option.some Jvm.ClassFile.FieldType.int)) ∈ TB := tw 800 (by decide +kernel) (by decide +kernel)
theorem wd_801 : (Jvm.Cond.methodLink "NineRiverLaw" (79 : Nat) yX11_flow) ∈ TB := tw 801 (by decide +kernel) (by decide +kernel)
theorem wd_802 : (Jvm.Cond.instanceMethod yX11_flow) ∈ TB := tw 802 (by decide +kernel) (by decide +kernel)
theorem wd_803 : (Cond.selects RX11 yX11_flow yX11_flow) ∈ TB := tw 803 (by decide +kernel) (by decide +kernel)
theorem wd_804 : (Cond.code yX11_flow cX11_flow 3 (Option.some Jvm.ClassFile.FieldType.int)) ∈ TB := tw 804 (by decide +kernel) (by decide +kernel)
theorem wd_806 : (Jvm.Cond.methodLink "NineRiverLaw" (83 : Nat) yX11_asks) ∈ TB := tw 806 (by decide +kernel) (by decide +kernel)
theorem wd_807 : (Jvm.Cond.instanceMethod yX11_asks) ∈ TB := tw 807 (by decide +kernel) (by decide +kernel)
theorem wd_808 : (Cond.selects RX11 yX11_asks yX11_asks) ∈ TB := tw 808 (by decide +kernel) (by decide +kernel)
theorem wd_809 : (Cond.code yX11_asks cX11_asks 4 (Option.some Jvm.ClassFile.FieldType.int)) ∈ TB := tw 809 (by decide +kernel) (by decide +kernel)
theorem wd_822 : (Jvm.Cond.methodLink "NineRiverLaw" (87 : Nat) yX11_where) ∈ TB := tw 822 (by decide +kernel) (by decide +kernel)
theorem wd_823 : (Jvm.Cond.instanceMethod yX11_where) ∈ TB := tw 823 (by decide +kernel) (by decide +kernel)
theorem wd_824 : (Cond.selects RX11 yX11_where yX11_where) ∈ TB := tw 824 (by decide +kernel) (by decide +kernel)
theorem wd_825 : (Cond.code yX11_where cX11_where 4 (Option.some Jvm.ClassFile.FieldType.int)) ∈ TB := tw 825 (by decide +kernel) (by decide +kernel)
theorem wd_834 : (Jvm.Cond.methodLink "NineRiverLaw" (91 : Nat) yX11_below) ∈ TB := tw 834 (by decide +kernel) (by decide +kernel)
theorem wd_835 : (Jvm.Cond.instanceMethod yX11_below) ∈ TB := tw 835 (by decide +kernel) (by decide +kernel)
theorem wd_836 : (Cond.selects RX11 yX11_below yX11_below) ∈ TB := tw 836 (by decide +kernel) (by decide +kernel)
theorem wd_837 : (Cond.code yX11_below cX11_below 4 (Option.some Jvm.ClassFile.FieldType.int)) ∈ TB := tw 837 (by decide +kernel) (by decide +kernel)
theorem wd_843 : (Jvm.Cond.methodLink "NineRiverLaw" (95 : Nat) yX11_sources) ∈ TB := tw 843 (by decide +kernel) (by decide +kernel)
theorem wd_844 : (Jvm.Cond.instanceMethod yX11_sources) ∈ TB := tw 844 (by decide +kernel) (by decide +kernel)
theorem wd_845 : (Cond.selects RX11 yX11_sources yX11_sources) ∈ TB := tw 845 (by decide +kernel) (by decide +kernel)
theorem wd_846 : (Cond.code yX11_sources cX11_sources 4 (Option.some Jvm.ClassFile.FieldType.int)) ∈ TB := tw 846 (by decide +kernel) (by decide +kernel)
theorem wd_856 : (Jvm.Cond.methodLink "NineRiverLaw" (99 : Nat) yX11_boat) ∈ TB := tw 856 (by decide +kernel) (by decide +kernel)
theorem wd_857 : (Jvm.Cond.instanceMethod yX11_boat) ∈ TB := tw 857 (by decide +kernel) (by decide +kernel)
theorem wd_858 : (Cond.selects RX11 yX11_boat yX11_boat) ∈ TB := tw 858 (by decide +kernel) (by decide +kernel)
theorem wd_859 : (Cond.code yX11_boat cX11_boat 3 (Option.some Jvm.ClassFile.FieldType.int)) ∈ TB := tw 859 (by decide +kernel) (by decide +kernel)
theorem wd_860 : (Jvm.Cond.methodLink "NineRiverLaw" (103 : Nat) yX11_moor) ∈ TB := tw 860 (by decide +kernel) (by decide +kernel)
theorem wd_861 : (Jvm.Cond.instanceMethod yX11_moor) ∈ TB := tw 861 (by decide +kernel) (by decide +kernel)
theorem wd_862 : (Cond.selects RX11 yX11_moor yX11_moor) ∈ TB := tw 862 (by decide +kernel) (by decide +kernel)
theorem wd_863 : (Cond.code yX11_moor cX11_moor 4 (Option.some Jvm.ClassFile.FieldType.int)) ∈ TB := tw 863 (by decide +kernel) (by decide +kernel)
theorem wd_868 : (Jvm.Cond.methodLink "NineRiverLaw" (107 : Nat) yX11_sails) ∈ TB := tw 868 (by decide +kernel) (by decide +kernel)
theorem wd_869 : (Jvm.Cond.instanceMethod yX11_sails) ∈ TB := tw 869 (by decide +kernel) (by decide +kernel)
theorem wd_870 : (Cond.selects RX11 yX11_sails yX11_sails) ∈ TB := tw 870 (by decide +kernel) (by decide +kernel)
theorem wd_871 : (Cond.code yX11_sails cX11_sails 4 (Option.some Jvm.ClassFile.FieldType.int)) ∈ TB := tw 871 (by decide +kernel) (by decide +kernel)
theorem wd_894 : (Jvm.Cond.methodLink "NineRiverLaw" (111 : Nat) yX11_meet) ∈ TB := tw 894 (by decide +kernel) (by decide +kernel)
theorem wd_895 : (Jvm.Cond.instanceMethod yX11_meet) ∈ TB := tw 895 (by decide +kernel) (by decide +kernel)
theorem wd_896 : (Cond.selects RX11 yX11_meet yX11_meet) ∈ TB := tw 896 (by decide +kernel) (by decide +kernel)
theorem wd_897 : (Cond.code yX11_meet cX11_meet 5 (Option.some Jvm.ClassFile.FieldType.int)) ∈ TB := tw 897 (by decide +kernel) (by decide +kernel)
theorem wd_904 : (Jvm.Cond.methodLink "NineRiverLaw" (115 : Nat) yX11_pour) ∈ TB := tw 904 (by decide +kernel) (by decide +kernel)
theorem wd_905 : (Jvm.Cond.instanceMethod yX11_pour) ∈ TB := tw 905 (by decide +kernel) (by decide +kernel)
theorem wd_906 : (Cond.selects RX11 yX11_pour yX11_pour) ∈ TB := tw 906 (by decide +kernel) (by decide +kernel)
theorem wd_907 : (Cond.code yX11_pour cX11_pour 5 (Option.some Jvm.ClassFile.FieldType.int)) ∈ TB := tw 907 (by decide +kernel) (by decide +kernel)
theorem wd_908 : (Jvm.Cond.methodLink "NineRiverLaw" (120 : Nat) yX11_undo) ∈ TB := tw 908 (by decide +kernel) (by decide +kernel)
theorem wd_909 : (Jvm.Cond.instanceMethod yX11_undo) ∈ TB := tw 909 (by decide +kernel) (by decide +kernel)
theorem wd_910 : (Cond.selects RX11 yX11_undo yX11_undo) ∈ TB := tw 910 (by decide +kernel) (by decide +kernel)
theorem wd_911 : (Cond.code yX11_undo cX11_undo 2 (Option.some Jvm.ClassFile.FieldType.int)) ∈ TB := tw 911 (by decide +kernel) (by decide +kernel)
theorem wd_912 : (Jvm.Cond.methodLink "NineRiverLaw" (124 : Nat) yX11_dye) ∈ TB := tw 912 (by decide +kernel) (by decide +kernel)
theorem wd_913 : (Jvm.Cond.instanceMethod yX11_dye) ∈ TB := tw 913 (by decide +kernel) (by decide +kernel)
theorem wd_914 : (Cond.selects RX11 yX11_dye yX11_dye) ∈ TB := tw 914 (by decide +kernel) (by decide +kernel)
theorem wd_915 : (Cond.code yX11_dye cX11_dye 4 (Option.some Jvm.ClassFile.FieldType.int)) ∈ TB := tw 915 (by decide +kernel) (by decide +kernel)
theorem wd_927 : (Jvm.Cond.methodLink "NineRiverLaw" (128 : Nat) yX11_comes) ∈ TB := tw 927 (by decide +kernel) (by decide +kernel)
theorem wd_928 : (Jvm.Cond.instanceMethod yX11_comes) ∈ TB := tw 928 (by decide +kernel) (by decide +kernel)
theorem wd_929 : (Cond.selects RX11 yX11_comes yX11_comes) ∈ TB := tw 929 (by decide +kernel) (by decide +kernel)
theorem wd_930 : (Cond.code yX11_comes cX11_comes 4 (Option.some Jvm.ClassFile.FieldType.int)) ∈ TB := tw 930 (by decide +kernel) (by decide +kernel)
theorem wd_937 : (Jvm.Cond.methodLink "NineRiverLaw" (132 : Nat) yX11_most) ∈ TB := tw 937 (by decide +kernel) (by decide +kernel)
theorem wd_938 : (Jvm.Cond.instanceMethod yX11_most) ∈ TB := tw 938 (by decide +kernel) (by decide +kernel)
theorem wd_939 : (Cond.selects RX11 yX11_most yX11_most) ∈ TB := tw 939 (by decide +kernel) (by decide +kernel)
theorem wd_940 : (Cond.code yX11_most cX11_most 4 (Option.some Jvm.ClassFile.FieldType.int)) ∈ TB := tw 940 (by decide +kernel) (by decide +kernel)
theorem wd_955 : (Jvm.Cond.methodLink "NineRiverLaw" (136 : Nat) yX11_least) ∈ TB := tw 955 (by decide +kernel) (by decide +kernel)
theorem wd_956 : (Jvm.Cond.instanceMethod yX11_least) ∈ TB := tw 956 (by decide +kernel) (by decide +kernel)
theorem wd_957 : (Cond.selects RX11 yX11_least yX11_least) ∈ TB := tw 957 (by decide +kernel) (by decide +kernel)
theorem wd_958 : (Cond.code yX11_least cX11_least 6 (Option.some Jvm.ClassFile.FieldType.int)) ∈ TB := tw 958 (by decide +kernel) (by decide +kernel)
theorem wd_975 : (Jvm.Cond.methodLink "NineRiverLaw" (140 : Nat) yX11_sight) ∈ TB := tw 975 (by decide +kernel) (by decide +kernel)
theorem wd_976 : (Jvm.Cond.instanceMethod yX11_sight) ∈ TB := tw 976 (by decide +kernel) (by decide +kernel)
theorem wd_977 : (Cond.selects RX11 yX11_sight yX11_sight) ∈ TB := tw 977 (by decide +kernel) (by decide +kernel)
theorem wd_978 : (Cond.code yX11_sight cX11_sight 5 (Option.some Jvm.ClassFile.FieldType.int)) ∈ TB := tw 978 (by decide +kernel) (by decide +kernel)
theorem wd_979 : (Jvm.Cond.methodLink "NineRiverLaw" (144 : Nat) yX11_forget) ∈ TB := tw 979 (by decide +kernel) (by decide +kernel)
theorem wd_980 : (Jvm.Cond.instanceMethod yX11_forget) ∈ TB := tw 980 (by decide +kernel) (by decide +kernel)
theorem wd_981 : (Cond.selects RX11 yX11_forget yX11_forget) ∈ TB := tw 981 (by decide +kernel) (by decide +kernel)
theorem wd_982 : (Cond.code yX11_forget cX11_forget 1 (Option.some Jvm.ClassFile.FieldType.int)) ∈ TB := tw 982 (by decide +kernel) (by decide +kernel)
theorem wd_987 : (Jvm.Cond.methodLink "NineRiverLaw" (148 : Nat) yX11_so) ∈ TB := tw 987 (by decide +kernel) (by decide +kernel)
theorem wd_988 : (Jvm.Cond.instanceMethod yX11_so) ∈ TB := tw 988 (by decide +kernel) (by decide +kernel)
theorem wd_989 : (Cond.selects RX11 yX11_so yX11_so) ∈ TB := tw 989 (by decide +kernel) (by decide +kernel)
theorem wd_990 : (Cond.code yX11_so cX11_so 4 (Option.some Jvm.ClassFile.FieldType.int)) ∈ TB := tw 990 (by decide +kernel) (by decide +kernel)
theorem wd_991 : (Jvm.Cond.methodLink "NineRiverLaw" (152 : Nat) yX11_suspects) ∈ TB := tw 991 (by decide +kernel) (by decide +kernel)
theorem wd_992 : (Jvm.Cond.instanceMethod yX11_suspects) ∈ TB := tw 992 (by decide +kernel) (by decide +kernel)
theorem wd_993 : (Cond.selects RX11 yX11_suspects yX11_suspects) ∈ TB := tw 993 (by decide +kernel) (by decide +kernel)
theorem wd_994 : (Cond.code yX11_suspects cX11_suspects 3 (Option.some Jvm.ClassFile.FieldType.int)) ∈ TB := tw 994 (by decide +kernel) (by decide +kernel)
/-! THE CLAIM OUT OF ONE WALK OF THE LAW'S BODY. Your part is whole_start (and what it stands on); all else here is the same for every law, but numbers. -/
def R_law : String := "NineRiverLaw"
def lw_P (b : Addr) (xs : List Int32) (args : Array Value) (s : State) : Prop := args = #[.ref b] ∧ s.IntsAt b xs ∧ xs.length ≤ 3584 ∧ (Jvm.Cond.and given_1 narrow_1).before args s = true
def lw_Q (_ : Array Value) (s : State) (o : Outcome) (t : State) : Prop := o = .returned (some (.int 1)) ∧ Framed s o t [] 600000 7302250
def lw_Z (below : List Frame) (a : Array Value) (s : State) : State → Prop := fun t => ∃ o, t.status = .running ∧ Ended t below o ∧ lw_Q a s o t
/-- the law's own end, with 1 on the stack, nothing written that was there before, its room as the claim has it -/
theorem lw_ret {p : Program} {l : Launch} {e : Env} {s : State} {m : MethodId} {below : List Frame} {meth : Method} {c : Code} {b : Nat} (hx : p.tables.exec = Jvm.exec) (hb : c.code = code) (hr : meth.sig.returnType = ret) (hlocks : meth.locks = false) {pc : Nat} {H : Heap} {ls : Array Slot} (hdg : decode code pc = .ok (.ireturn, 1)) : W p l e room_1 s m #[Value.ref b] below meth c H [] 600000 7302250 (lw_Z below #[Value.ref b] s) (F0 m pc ls [.int 1]) := by
  intro T hT X
  obtain ⟨fs, hret, hrun, hended, hW, hframe⟩ := X.leave (v := some (.int 1)) (hlocks := hlocks) (fun h => by rw [hr] at h; cases h)
  have hmeth' : T.vm.method? m = some meth := X.method'
  refine ⟨T.setFrames fs, ?_, .returned (some (.int 1)), hrun, hended, rfl, ⟨_, rfl⟩, hW, hframe⟩
  jvm_step X.here [X.here.top, hx, hb, hdg, hmeth', hr, ret, narrow_b1]
  (try refine ⟨rfl, ?_⟩); (try refine ⟨rfl, ?_⟩)
  first | (intro acts; rw [hret _ acts rfl rfl rfl]) | rw [hret _ _ rfl rfl rfl]
  exact Steps.refl _
/-- what holds at the law's entry: the machine, the code, the tables' words (any of lw_tbl by 'hts w (by decide +kernel)'), the script of L ints xs at the cell b, what the Statement gives of the start (any of its parts by flat_of_before) -/
def lw_At (p : Program) (s : State) (m : MethodId) (meth : Method) (c : Code) (b L : Nat) (xs : Nat → Int32) : Prop :=
  p.tables.exec = Jvm.exec ∧ c.code = code ∧ meth.sig.returnType = ret ∧ c.maxLocals = 4 ∧ s.vm.findClass R_law = some m.cls ∧ (∀ w ∈ lw_tbl, w.before #[Value.ref b] s = true) ∧ va_X b L xs s s.heap ∧ b < s.heap.size ∧ meth.locks = false ∧ (Jvm.Cond.and given_1 narrow_1).before #[Value.ref b] s = true
def LCx (E : Nat → ClassId) (D : va_G) (adK adV : Nat → Nat) (s : State) : Prop := th_N s ∧ va_K D vwCl (th_tys E) s ∧ WS adK adV (LWa s) s s.heap ∧ th_CL E s ∧ th_AO s
theorem lw_tb {w : Cond} (hw : w ∈ TB) {args : Array Value} {s : State} (h : ∀ w ∈ lw_tbl, w.before args s = true) : ∀ v ∈ tb w, v.before args s = true := fun v hv => by
  rcases List.mem_cons.mp hv with rfl | hv
  · exact h _ (List.mem_filter.mp hw).1
  · exact h _ (List.mem_filter.mp hv).1
theorem lw_nA {E : Nat → ClassId} {D : va_G} {s : State} {xa ma : Nat} {Gc Gm : th_G} {n : Nat} {H : Heap} {locs : List Loc} (h : LWs E D s xa ma Gc Gm n H locs) : ∀ q, nA Gc H.size q → LWa s q := fun q z => by
  rcases z with ⟨k', z⟩ | z
  · exact h.2.2.2.2.1 q k' z
  · exact Nat.le_trans h.2.2.2.2.2.2.2.1 z
theorem lw_prim {args : Array Value} {s : State} {ty : FieldType} (h : (Cond.arrayClass ty).before args s = true) : ∃ cA, ArrOfT s cA ty ∧ s.vm.findClass ("[" ++ ty.toString) = some cA := by
  obtain ⟨cA, kA, comp, h1, h2, h3⟩ := Cond.arrayClass_spec h
  exact ⟨cA, fun n z => ⟨fun k h => (by cases h), kA, h2, comp, h3⟩, h1⟩
theorem lw_obj {args : Array Value} {s : State} {C : String} (h : (Cond.arrayOver (.object C)).before args s = true) : ∃ cA, ArrOfT s cA (.object C) ∧ va_RA s cA (.object C) := by
  obtain ⟨comp, cA, kA, h1, -, h2, h3, h4⟩ := Cond.arrayOver_spec h
  exact ⟨cA, fun n z => ⟨fun k h => (by cases h), kA, h2, comp, h3⟩, kA, comp, h2, h3, h1, h4⟩

