theorem dLaw_342g : (decode code 342 = .ok (.invokevirtual 18, 3)) ∧ (decode code 345 = .ok (.pop, 1)) ∧ (decode code 346 = .ok (.aload_n 2, 1)) ∧ (decode code 347 = .ok (.aload_n 0, 1)) ∧ (decode code 348 = .ok (.iload_n 3, 1)) ∧ (decode code 349 = .ok (.iconst 1, 1)) ∧ (decode code 350 = .ok (.iadd, 1)) ∧ (decode code 351 = .ok (.iaload, 1)) ∧ (decode code 352 = .ok (.aload_n 0, 1)) ∧ (decode code 353 = .ok (.iload_n 3, 1)) := by decide +kernel
theorem dLaw_342 : decode code 342 = .ok (.invokevirtual 18, 3) := dLaw_342g.1
theorem dLaw_345 : decode code 345 = .ok (.pop, 1) := dLaw_342g.2.1
theorem dLaw_346 : decode code 346 = .ok (.aload_n 2, 1) := dLaw_342g.2.2.1
theorem dLaw_347 : decode code 347 = .ok (.aload_n 0, 1) := dLaw_342g.2.2.2.1
theorem dLaw_348 : decode code 348 = .ok (.iload_n 3, 1) := dLaw_342g.2.2.2.2.1
theorem dLaw_349 : decode code 349 = .ok (.iconst 1, 1) := dLaw_342g.2.2.2.2.2.1
theorem dLaw_350 : decode code 350 = .ok (.iadd, 1) := dLaw_342g.2.2.2.2.2.2.1
theorem dLaw_351 : decode code 351 = .ok (.iaload, 1) := dLaw_342g.2.2.2.2.2.2.2.1
theorem dLaw_352 : decode code 352 = .ok (.aload_n 0, 1) := dLaw_342g.2.2.2.2.2.2.2.2.1
theorem dLaw_353 : decode code 353 = .ok (.iload_n 3, 1) := dLaw_342g.2.2.2.2.2.2.2.2.2
theorem dLaw_354g : (decode code 354 = .ok (.iconst 2, 1)) ∧ (decode code 355 = .ok (.iadd, 1)) ∧ (decode code 356 = .ok (.iaload, 1)) ∧ (decode code 357 = .ok (.invokevirtual 22, 3)) ∧ (decode code 360 = .ok (.pop, 1)) ∧ (decode code 361 = .ok (.goto 1643, 3)) ∧ (decode code 364 = .ok (.aload_n 1, 1)) ∧ (decode code 365 = .ok (.aload_n 0, 1)) ∧ (decode code 366 = .ok (.iload_n 3, 1)) ∧ (decode code 367 = .ok (.iconst 1, 1)) := by decide +kernel
theorem dLaw_354 : decode code 354 = .ok (.iconst 2, 1) := dLaw_354g.1
theorem dLaw_355 : decode code 355 = .ok (.iadd, 1) := dLaw_354g.2.1
theorem dLaw_356 : decode code 356 = .ok (.iaload, 1) := dLaw_354g.2.2.1
theorem dLaw_357 : decode code 357 = .ok (.invokevirtual 22, 3) := dLaw_354g.2.2.2.1
theorem dLaw_360 : decode code 360 = .ok (.pop, 1) := dLaw_354g.2.2.2.2.1
theorem dLaw_361 : decode code 361 = .ok (.goto 1643, 3) := dLaw_354g.2.2.2.2.2.1
theorem dLaw_364 : decode code 364 = .ok (.aload_n 1, 1) := dLaw_354g.2.2.2.2.2.2.1
theorem dLaw_365 : decode code 365 = .ok (.aload_n 0, 1) := dLaw_354g.2.2.2.2.2.2.2.1
theorem dLaw_366 : decode code 366 = .ok (.iload_n 3, 1) := dLaw_354g.2.2.2.2.2.2.2.2.1
theorem dLaw_367 : decode code 367 = .ok (.iconst 1, 1) := dLaw_354g.2.2.2.2.2.2.2.2.2
theorem dLaw_368g : (decode code 368 = .ok (.iadd, 1)) ∧ (decode code 369 = .ok (.iaload, 1)) ∧ (decode code 370 = .ok (.aload_n 0, 1)) ∧ (decode code 371 = .ok (.iload_n 3, 1)) ∧ (decode code 372 = .ok (.iconst 2, 1)) ∧ (decode code 373 = .ok (.iadd, 1)) ∧ (decode code 374 = .ok (.iaload, 1)) ∧ (decode code 375 = .ok (.aload_n 0, 1)) ∧ (decode code 376 = .ok (.iload_n 3, 1)) ∧ (decode code 377 = .ok (.iconst 3, 1)) := by decide +kernel
theorem dLaw_368 : decode code 368 = .ok (.iadd, 1) := dLaw_368g.1
theorem dLaw_369 : decode code 369 = .ok (.iaload, 1) := dLaw_368g.2.1
theorem dLaw_370 : decode code 370 = .ok (.aload_n 0, 1) := dLaw_368g.2.2.1
theorem dLaw_371 : decode code 371 = .ok (.iload_n 3, 1) := dLaw_368g.2.2.2.1
theorem dLaw_372 : decode code 372 = .ok (.iconst 2, 1) := dLaw_368g.2.2.2.2.1
theorem dLaw_373 : decode code 373 = .ok (.iadd, 1) := dLaw_368g.2.2.2.2.2.1
theorem dLaw_374 : decode code 374 = .ok (.iaload, 1) := dLaw_368g.2.2.2.2.2.2.1
theorem dLaw_375 : decode code 375 = .ok (.aload_n 0, 1) := dLaw_368g.2.2.2.2.2.2.2.1
theorem dLaw_376 : decode code 376 = .ok (.iload_n 3, 1) := dLaw_368g.2.2.2.2.2.2.2.2.1
theorem dLaw_377 : decode code 377 = .ok (.iconst 3, 1) := dLaw_368g.2.2.2.2.2.2.2.2.2
theorem dLaw_378g : (decode code 378 = .ok (.iadd, 1)) ∧ (decode code 379 = .ok (.iaload, 1)) ∧ (decode code 380 = .ok (.invokevirtual 23, 3)) ∧ (decode code 383 = .ok (.pop, 1)) ∧ (decode code 384 = .ok (.aload_n 2, 1)) ∧ (decode code 385 = .ok (.aload_n 0, 1)) ∧ (decode code 386 = .ok (.iload_n 3, 1)) ∧ (decode code 387 = .ok (.iconst 1, 1)) ∧ (decode code 388 = .ok (.iadd, 1)) ∧ (decode code 389 = .ok (.iaload, 1)) := by decide +kernel
theorem dLaw_378 : decode code 378 = .ok (.iadd, 1) := dLaw_378g.1
theorem dLaw_379 : decode code 379 = .ok (.iaload, 1) := dLaw_378g.2.1
theorem dLaw_380 : decode code 380 = .ok (.invokevirtual 23, 3) := dLaw_378g.2.2.1
theorem dLaw_383 : decode code 383 = .ok (.pop, 1) := dLaw_378g.2.2.2.1
theorem dLaw_384 : decode code 384 = .ok (.aload_n 2, 1) := dLaw_378g.2.2.2.2.1
theorem dLaw_385 : decode code 385 = .ok (.aload_n 0, 1) := dLaw_378g.2.2.2.2.2.1
theorem dLaw_386 : decode code 386 = .ok (.iload_n 3, 1) := dLaw_378g.2.2.2.2.2.2.1
theorem dLaw_387 : decode code 387 = .ok (.iconst 1, 1) := dLaw_378g.2.2.2.2.2.2.2.1
theorem dLaw_388 : decode code 388 = .ok (.iadd, 1) := dLaw_378g.2.2.2.2.2.2.2.2.1
theorem dLaw_389 : decode code 389 = .ok (.iaload, 1) := dLaw_378g.2.2.2.2.2.2.2.2.2
theorem dLaw_390g : (decode code 390 = .ok (.aload_n 0, 1)) ∧ (decode code 391 = .ok (.iload_n 3, 1)) ∧ (decode code 392 = .ok (.iconst 2, 1)) ∧ (decode code 393 = .ok (.iadd, 1)) ∧ (decode code 394 = .ok (.iaload, 1)) ∧ (decode code 395 = .ok (.aload_n 0, 1)) ∧ (decode code 396 = .ok (.iload_n 3, 1)) ∧ (decode code 397 = .ok (.iconst 3, 1)) ∧ (decode code 398 = .ok (.iadd, 1)) ∧ (decode code 399 = .ok (.iaload, 1)) := by decide +kernel
theorem dLaw_390 : decode code 390 = .ok (.aload_n 0, 1) := dLaw_390g.1
theorem dLaw_391 : decode code 391 = .ok (.iload_n 3, 1) := dLaw_390g.2.1
theorem dLaw_392 : decode code 392 = .ok (.iconst 2, 1) := dLaw_390g.2.2.1
theorem dLaw_393 : decode code 393 = .ok (.iadd, 1) := dLaw_390g.2.2.2.1
theorem dLaw_394 : decode code 394 = .ok (.iaload, 1) := dLaw_390g.2.2.2.2.1
theorem dLaw_395 : decode code 395 = .ok (.aload_n 0, 1) := dLaw_390g.2.2.2.2.2.1
theorem dLaw_396 : decode code 396 = .ok (.iload_n 3, 1) := dLaw_390g.2.2.2.2.2.2.1
theorem dLaw_397 : decode code 397 = .ok (.iconst 3, 1) := dLaw_390g.2.2.2.2.2.2.2.1
theorem dLaw_398 : decode code 398 = .ok (.iadd, 1) := dLaw_390g.2.2.2.2.2.2.2.2.1
theorem dLaw_399 : decode code 399 = .ok (.iaload, 1) := dLaw_390g.2.2.2.2.2.2.2.2.2
theorem dLaw_400g : (decode code 400 = .ok (.invokevirtual 27, 3)) ∧ (decode code 403 = .ok (.pop, 1)) ∧ (decode code 404 = .ok (.goto 1600, 3)) ∧ (decode code 407 = .ok (.aload_n 1, 1)) ∧ (decode code 408 = .ok (.aload_n 0, 1)) ∧ (decode code 409 = .ok (.iload_n 3, 1)) ∧ (decode code 410 = .ok (.iconst 1, 1)) ∧ (decode code 411 = .ok (.iadd, 1)) ∧ (decode code 412 = .ok (.iaload, 1)) ∧ (decode code 413 = .ok (.aload_n 0, 1)) := by decide +kernel
theorem dLaw_400 : decode code 400 = .ok (.invokevirtual 27, 3) := dLaw_400g.1
theorem dLaw_403 : decode code 403 = .ok (.pop, 1) := dLaw_400g.2.1
theorem dLaw_404 : decode code 404 = .ok (.goto 1600, 3) := dLaw_400g.2.2.1
theorem dLaw_407 : decode code 407 = .ok (.aload_n 1, 1) := dLaw_400g.2.2.2.1
theorem dLaw_408 : decode code 408 = .ok (.aload_n 0, 1) := dLaw_400g.2.2.2.2.1
theorem dLaw_409 : decode code 409 = .ok (.iload_n 3, 1) := dLaw_400g.2.2.2.2.2.1
theorem dLaw_410 : decode code 410 = .ok (.iconst 1, 1) := dLaw_400g.2.2.2.2.2.2.1
theorem dLaw_411 : decode code 411 = .ok (.iadd, 1) := dLaw_400g.2.2.2.2.2.2.2.1
theorem dLaw_412 : decode code 412 = .ok (.iaload, 1) := dLaw_400g.2.2.2.2.2.2.2.2.1
theorem dLaw_413 : decode code 413 = .ok (.aload_n 0, 1) := dLaw_400g.2.2.2.2.2.2.2.2.2
theorem dLaw_414g : (decode code 414 = .ok (.iload_n 3, 1)) ∧ (decode code 415 = .ok (.iconst 2, 1)) ∧ (decode code 416 = .ok (.iadd, 1)) ∧ (decode code 417 = .ok (.iaload, 1)) ∧ (decode code 418 = .ok (.aload_n 0, 1)) ∧ (decode code 419 = .ok (.iload_n 3, 1)) ∧ (decode code 420 = .ok (.iconst 3, 1)) ∧ (decode code 421 = .ok (.iadd, 1)) ∧ (decode code 422 = .ok (.iaload, 1)) ∧ (decode code 423 = .ok (.invokevirtual 28, 3)) := by decide +kernel
theorem dLaw_414 : decode code 414 = .ok (.iload_n 3, 1) := dLaw_414g.1
theorem dLaw_415 : decode code 415 = .ok (.iconst 2, 1) := dLaw_414g.2.1
theorem dLaw_416 : decode code 416 = .ok (.iadd, 1) := dLaw_414g.2.2.1
theorem dLaw_417 : decode code 417 = .ok (.iaload, 1) := dLaw_414g.2.2.2.1
theorem dLaw_418 : decode code 418 = .ok (.aload_n 0, 1) := dLaw_414g.2.2.2.2.1
theorem dLaw_419 : decode code 419 = .ok (.iload_n 3, 1) := dLaw_414g.2.2.2.2.2.1
theorem dLaw_420 : decode code 420 = .ok (.iconst 3, 1) := dLaw_414g.2.2.2.2.2.2.1
theorem dLaw_421 : decode code 421 = .ok (.iadd, 1) := dLaw_414g.2.2.2.2.2.2.2.1
theorem dLaw_422 : decode code 422 = .ok (.iaload, 1) := dLaw_414g.2.2.2.2.2.2.2.2.1
theorem dLaw_423 : decode code 423 = .ok (.invokevirtual 28, 3) := dLaw_414g.2.2.2.2.2.2.2.2.2
theorem dLaw_426g : (decode code 426 = .ok (.pop, 1)) ∧ (decode code 427 = .ok (.aload_n 2, 1)) ∧ (decode code 428 = .ok (.aload_n 0, 1)) ∧ (decode code 429 = .ok (.iload_n 3, 1)) ∧ (decode code 430 = .ok (.iconst 1, 1)) ∧ (decode code 431 = .ok (.iadd, 1)) ∧ (decode code 432 = .ok (.iaload, 1)) ∧ (decode code 433 = .ok (.aload_n 0, 1)) ∧ (decode code 434 = .ok (.iload_n 3, 1)) ∧ (decode code 435 = .ok (.iconst 2, 1)) := by decide +kernel
theorem dLaw_426 : decode code 426 = .ok (.pop, 1) := dLaw_426g.1
theorem dLaw_427 : decode code 427 = .ok (.aload_n 2, 1) := dLaw_426g.2.1
theorem dLaw_428 : decode code 428 = .ok (.aload_n 0, 1) := dLaw_426g.2.2.1
theorem dLaw_429 : decode code 429 = .ok (.iload_n 3, 1) := dLaw_426g.2.2.2.1
theorem dLaw_430 : decode code 430 = .ok (.iconst 1, 1) := dLaw_426g.2.2.2.2.1
theorem dLaw_431 : decode code 431 = .ok (.iadd, 1) := dLaw_426g.2.2.2.2.2.1
theorem dLaw_432 : decode code 432 = .ok (.iaload, 1) := dLaw_426g.2.2.2.2.2.2.1
theorem dLaw_433 : decode code 433 = .ok (.aload_n 0, 1) := dLaw_426g.2.2.2.2.2.2.2.1
theorem dLaw_434 : decode code 434 = .ok (.iload_n 3, 1) := dLaw_426g.2.2.2.2.2.2.2.2.1
theorem dLaw_435 : decode code 435 = .ok (.iconst 2, 1) := dLaw_426g.2.2.2.2.2.2.2.2.2
theorem dLaw_436g : (decode code 436 = .ok (.iadd, 1)) ∧ (decode code 437 = .ok (.iaload, 1)) ∧ (decode code 438 = .ok (.aload_n 0, 1)) ∧ (decode code 439 = .ok (.iload_n 3, 1)) ∧ (decode code 440 = .ok (.iconst 3, 1)) ∧ (decode code 441 = .ok (.iadd, 1)) ∧ (decode code 442 = .ok (.iaload, 1)) ∧ (decode code 443 = .ok (.invokevirtual 31, 3)) ∧ (decode code 446 = .ok (.pop, 1)) ∧ (decode code 447 = .ok (.goto 1557, 3)) := by decide +kernel
theorem dLaw_436 : decode code 436 = .ok (.iadd, 1) := dLaw_436g.1
theorem dLaw_437 : decode code 437 = .ok (.iaload, 1) := dLaw_436g.2.1
theorem dLaw_438 : decode code 438 = .ok (.aload_n 0, 1) := dLaw_436g.2.2.1
theorem dLaw_439 : decode code 439 = .ok (.iload_n 3, 1) := dLaw_436g.2.2.2.1
theorem dLaw_440 : decode code 440 = .ok (.iconst 3, 1) := dLaw_436g.2.2.2.2.1
theorem dLaw_441 : decode code 441 = .ok (.iadd, 1) := dLaw_436g.2.2.2.2.2.1
theorem dLaw_442 : decode code 442 = .ok (.iaload, 1) := dLaw_436g.2.2.2.2.2.2.1
theorem dLaw_443 : decode code 443 = .ok (.invokevirtual 31, 3) := dLaw_436g.2.2.2.2.2.2.2.1
theorem dLaw_446 : decode code 446 = .ok (.pop, 1) := dLaw_436g.2.2.2.2.2.2.2.2.1
theorem dLaw_447 : decode code 447 = .ok (.goto 1557, 3) := dLaw_436g.2.2.2.2.2.2.2.2.2
theorem dLaw_450g : (decode code 450 = .ok (.aload_n 1, 1)) ∧ (decode code 451 = .ok (.aload_n 0, 1)) ∧ (decode code 452 = .ok (.iload_n 3, 1)) ∧ (decode code 453 = .ok (.iconst 1, 1)) ∧ (decode code 454 = .ok (.iadd, 1)) ∧ (decode code 455 = .ok (.iaload, 1)) ∧ (decode code 456 = .ok (.invokevirtual 32, 3)) ∧ (decode code 459 = .ok (.pop, 1)) ∧ (decode code 460 = .ok (.aload_n 2, 1)) ∧ (decode code 461 = .ok (.aload_n 0, 1)) := by decide +kernel
theorem dLaw_450 : decode code 450 = .ok (.aload_n 1, 1) := dLaw_450g.1
theorem dLaw_451 : decode code 451 = .ok (.aload_n 0, 1) := dLaw_450g.2.1
theorem dLaw_452 : decode code 452 = .ok (.iload_n 3, 1) := dLaw_450g.2.2.1
theorem dLaw_453 : decode code 453 = .ok (.iconst 1, 1) := dLaw_450g.2.2.2.1
theorem dLaw_454 : decode code 454 = .ok (.iadd, 1) := dLaw_450g.2.2.2.2.1
theorem dLaw_455 : decode code 455 = .ok (.iaload, 1) := dLaw_450g.2.2.2.2.2.1
theorem dLaw_456 : decode code 456 = .ok (.invokevirtual 32, 3) := dLaw_450g.2.2.2.2.2.2.1
theorem dLaw_459 : decode code 459 = .ok (.pop, 1) := dLaw_450g.2.2.2.2.2.2.2.1
theorem dLaw_460 : decode code 460 = .ok (.aload_n 2, 1) := dLaw_450g.2.2.2.2.2.2.2.2.1
theorem dLaw_461 : decode code 461 = .ok (.aload_n 0, 1) := dLaw_450g.2.2.2.2.2.2.2.2.2
