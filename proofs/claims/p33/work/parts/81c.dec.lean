theorem dLaw_462g : (decode code 462 = .ok (.iload_n 3, 1)) ∧ (decode code 463 = .ok (.iconst 1, 1)) ∧ (decode code 464 = .ok (.iadd, 1)) ∧ (decode code 465 = .ok (.iaload, 1)) ∧ (decode code 466 = .ok (.invokevirtual 36, 3)) ∧ (decode code 469 = .ok (.pop, 1)) ∧ (decode code 470 = .ok (.goto 1534, 3)) ∧ (decode code 473 = .ok (.aload_n 1, 1)) ∧ (decode code 474 = .ok (.aload_n 0, 1)) ∧ (decode code 475 = .ok (.iload_n 3, 1)) := by decide +kernel
theorem dLaw_462 : decode code 462 = .ok (.iload_n 3, 1) := dLaw_462g.1
theorem dLaw_463 : decode code 463 = .ok (.iconst 1, 1) := dLaw_462g.2.1
theorem dLaw_464 : decode code 464 = .ok (.iadd, 1) := dLaw_462g.2.2.1
theorem dLaw_465 : decode code 465 = .ok (.iaload, 1) := dLaw_462g.2.2.2.1
theorem dLaw_466 : decode code 466 = .ok (.invokevirtual 36, 3) := dLaw_462g.2.2.2.2.1
theorem dLaw_469 : decode code 469 = .ok (.pop, 1) := dLaw_462g.2.2.2.2.2.1
theorem dLaw_470 : decode code 470 = .ok (.goto 1534, 3) := dLaw_462g.2.2.2.2.2.2.1
theorem dLaw_473 : decode code 473 = .ok (.aload_n 1, 1) := dLaw_462g.2.2.2.2.2.2.2.1
theorem dLaw_474 : decode code 474 = .ok (.aload_n 0, 1) := dLaw_462g.2.2.2.2.2.2.2.2.1
theorem dLaw_475 : decode code 475 = .ok (.iload_n 3, 1) := dLaw_462g.2.2.2.2.2.2.2.2.2
theorem dLaw_476g : (decode code 476 = .ok (.iconst 1, 1)) ∧ (decode code 477 = .ok (.iadd, 1)) ∧ (decode code 478 = .ok (.iaload, 1)) ∧ (decode code 479 = .ok (.invokevirtual 37, 3)) ∧ (decode code 482 = .ok (.pop, 1)) ∧ (decode code 483 = .ok (.aload_n 2, 1)) ∧ (decode code 484 = .ok (.aload_n 0, 1)) ∧ (decode code 485 = .ok (.iload_n 3, 1)) ∧ (decode code 486 = .ok (.iconst 1, 1)) ∧ (decode code 487 = .ok (.iadd, 1)) := by decide +kernel
theorem dLaw_476 : decode code 476 = .ok (.iconst 1, 1) := dLaw_476g.1
theorem dLaw_477 : decode code 477 = .ok (.iadd, 1) := dLaw_476g.2.1
theorem dLaw_478 : decode code 478 = .ok (.iaload, 1) := dLaw_476g.2.2.1
theorem dLaw_479 : decode code 479 = .ok (.invokevirtual 37, 3) := dLaw_476g.2.2.2.1
theorem dLaw_482 : decode code 482 = .ok (.pop, 1) := dLaw_476g.2.2.2.2.1
theorem dLaw_483 : decode code 483 = .ok (.aload_n 2, 1) := dLaw_476g.2.2.2.2.2.1
theorem dLaw_484 : decode code 484 = .ok (.aload_n 0, 1) := dLaw_476g.2.2.2.2.2.2.1
theorem dLaw_485 : decode code 485 = .ok (.iload_n 3, 1) := dLaw_476g.2.2.2.2.2.2.2.1
theorem dLaw_486 : decode code 486 = .ok (.iconst 1, 1) := dLaw_476g.2.2.2.2.2.2.2.2.1
theorem dLaw_487 : decode code 487 = .ok (.iadd, 1) := dLaw_476g.2.2.2.2.2.2.2.2.2
theorem dLaw_488g : (decode code 488 = .ok (.iaload, 1)) ∧ (decode code 489 = .ok (.invokevirtual 40, 3)) ∧ (decode code 492 = .ok (.pop, 1)) ∧ (decode code 493 = .ok (.goto 1511, 3)) ∧ (decode code 496 = .ok (.aload_n 1, 1)) ∧ (decode code 497 = .ok (.aload_n 0, 1)) ∧ (decode code 498 = .ok (.iload_n 3, 1)) ∧ (decode code 499 = .ok (.iconst 1, 1)) ∧ (decode code 500 = .ok (.iadd, 1)) ∧ (decode code 501 = .ok (.iaload, 1)) := by decide +kernel
theorem dLaw_488 : decode code 488 = .ok (.iaload, 1) := dLaw_488g.1
theorem dLaw_489 : decode code 489 = .ok (.invokevirtual 40, 3) := dLaw_488g.2.1
theorem dLaw_492 : decode code 492 = .ok (.pop, 1) := dLaw_488g.2.2.1
theorem dLaw_493 : decode code 493 = .ok (.goto 1511, 3) := dLaw_488g.2.2.2.1
theorem dLaw_496 : decode code 496 = .ok (.aload_n 1, 1) := dLaw_488g.2.2.2.2.1
theorem dLaw_497 : decode code 497 = .ok (.aload_n 0, 1) := dLaw_488g.2.2.2.2.2.1
theorem dLaw_498 : decode code 498 = .ok (.iload_n 3, 1) := dLaw_488g.2.2.2.2.2.2.1
theorem dLaw_499 : decode code 499 = .ok (.iconst 1, 1) := dLaw_488g.2.2.2.2.2.2.2.1
theorem dLaw_500 : decode code 500 = .ok (.iadd, 1) := dLaw_488g.2.2.2.2.2.2.2.2.1
theorem dLaw_501 : decode code 501 = .ok (.iaload, 1) := dLaw_488g.2.2.2.2.2.2.2.2.2
theorem dLaw_502g : (decode code 502 = .ok (.aload_n 0, 1)) ∧ (decode code 503 = .ok (.iload_n 3, 1)) ∧ (decode code 504 = .ok (.iconst 2, 1)) ∧ (decode code 505 = .ok (.iadd, 1)) ∧ (decode code 506 = .ok (.iaload, 1)) ∧ (decode code 507 = .ok (.aload_n 0, 1)) ∧ (decode code 508 = .ok (.iload_n 3, 1)) ∧ (decode code 509 = .ok (.iconst 3, 1)) ∧ (decode code 510 = .ok (.iadd, 1)) ∧ (decode code 511 = .ok (.iaload, 1)) := by decide +kernel
theorem dLaw_502 : decode code 502 = .ok (.aload_n 0, 1) := dLaw_502g.1
theorem dLaw_503 : decode code 503 = .ok (.iload_n 3, 1) := dLaw_502g.2.1
theorem dLaw_504 : decode code 504 = .ok (.iconst 2, 1) := dLaw_502g.2.2.1
theorem dLaw_505 : decode code 505 = .ok (.iadd, 1) := dLaw_502g.2.2.2.1
theorem dLaw_506 : decode code 506 = .ok (.iaload, 1) := dLaw_502g.2.2.2.2.1
theorem dLaw_507 : decode code 507 = .ok (.aload_n 0, 1) := dLaw_502g.2.2.2.2.2.1
theorem dLaw_508 : decode code 508 = .ok (.iload_n 3, 1) := dLaw_502g.2.2.2.2.2.2.1
theorem dLaw_509 : decode code 509 = .ok (.iconst 3, 1) := dLaw_502g.2.2.2.2.2.2.2.1
theorem dLaw_510 : decode code 510 = .ok (.iadd, 1) := dLaw_502g.2.2.2.2.2.2.2.2.1
theorem dLaw_511 : decode code 511 = .ok (.iaload, 1) := dLaw_502g.2.2.2.2.2.2.2.2.2
theorem dLaw_512g : (decode code 512 = .ok (.invokevirtual 41, 3)) ∧ (decode code 515 = .ok (.pop, 1)) ∧ (decode code 516 = .ok (.aload_n 2, 1)) ∧ (decode code 517 = .ok (.aload_n 0, 1)) ∧ (decode code 518 = .ok (.iload_n 3, 1)) ∧ (decode code 519 = .ok (.iconst 1, 1)) ∧ (decode code 520 = .ok (.iadd, 1)) ∧ (decode code 521 = .ok (.iaload, 1)) ∧ (decode code 522 = .ok (.aload_n 0, 1)) ∧ (decode code 523 = .ok (.iload_n 3, 1)) := by decide +kernel
theorem dLaw_512 : decode code 512 = .ok (.invokevirtual 41, 3) := dLaw_512g.1
theorem dLaw_515 : decode code 515 = .ok (.pop, 1) := dLaw_512g.2.1
theorem dLaw_516 : decode code 516 = .ok (.aload_n 2, 1) := dLaw_512g.2.2.1
theorem dLaw_517 : decode code 517 = .ok (.aload_n 0, 1) := dLaw_512g.2.2.2.1
theorem dLaw_518 : decode code 518 = .ok (.iload_n 3, 1) := dLaw_512g.2.2.2.2.1
theorem dLaw_519 : decode code 519 = .ok (.iconst 1, 1) := dLaw_512g.2.2.2.2.2.1
theorem dLaw_520 : decode code 520 = .ok (.iadd, 1) := dLaw_512g.2.2.2.2.2.2.1
theorem dLaw_521 : decode code 521 = .ok (.iaload, 1) := dLaw_512g.2.2.2.2.2.2.2.1
theorem dLaw_522 : decode code 522 = .ok (.aload_n 0, 1) := dLaw_512g.2.2.2.2.2.2.2.2.1
theorem dLaw_523 : decode code 523 = .ok (.iload_n 3, 1) := dLaw_512g.2.2.2.2.2.2.2.2.2
theorem dLaw_524g : (decode code 524 = .ok (.iconst 2, 1)) ∧ (decode code 525 = .ok (.iadd, 1)) ∧ (decode code 526 = .ok (.iaload, 1)) ∧ (decode code 527 = .ok (.aload_n 0, 1)) ∧ (decode code 528 = .ok (.iload_n 3, 1)) ∧ (decode code 529 = .ok (.iconst 3, 1)) ∧ (decode code 530 = .ok (.iadd, 1)) ∧ (decode code 531 = .ok (.iaload, 1)) ∧ (decode code 532 = .ok (.invokevirtual 44, 3)) ∧ (decode code 535 = .ok (.pop, 1)) := by decide +kernel
theorem dLaw_524 : decode code 524 = .ok (.iconst 2, 1) := dLaw_524g.1
theorem dLaw_525 : decode code 525 = .ok (.iadd, 1) := dLaw_524g.2.1
theorem dLaw_526 : decode code 526 = .ok (.iaload, 1) := dLaw_524g.2.2.1
theorem dLaw_527 : decode code 527 = .ok (.aload_n 0, 1) := dLaw_524g.2.2.2.1
theorem dLaw_528 : decode code 528 = .ok (.iload_n 3, 1) := dLaw_524g.2.2.2.2.1
theorem dLaw_529 : decode code 529 = .ok (.iconst 3, 1) := dLaw_524g.2.2.2.2.2.1
theorem dLaw_530 : decode code 530 = .ok (.iadd, 1) := dLaw_524g.2.2.2.2.2.2.1
theorem dLaw_531 : decode code 531 = .ok (.iaload, 1) := dLaw_524g.2.2.2.2.2.2.2.1
theorem dLaw_532 : decode code 532 = .ok (.invokevirtual 44, 3) := dLaw_524g.2.2.2.2.2.2.2.2.1
theorem dLaw_535 : decode code 535 = .ok (.pop, 1) := dLaw_524g.2.2.2.2.2.2.2.2.2
theorem dLaw_536g : (decode code 536 = .ok (.goto 1468, 3)) ∧ (decode code 539 = .ok (.aload_n 1, 1)) ∧ (decode code 540 = .ok (.aload_n 0, 1)) ∧ (decode code 541 = .ok (.iload_n 3, 1)) ∧ (decode code 542 = .ok (.iconst 1, 1)) ∧ (decode code 543 = .ok (.iadd, 1)) ∧ (decode code 544 = .ok (.iaload, 1)) ∧ (decode code 545 = .ok (.aload_n 0, 1)) ∧ (decode code 546 = .ok (.iload_n 3, 1)) ∧ (decode code 547 = .ok (.iconst 2, 1)) := by decide +kernel
theorem dLaw_536 : decode code 536 = .ok (.goto 1468, 3) := dLaw_536g.1
theorem dLaw_539 : decode code 539 = .ok (.aload_n 1, 1) := dLaw_536g.2.1
theorem dLaw_540 : decode code 540 = .ok (.aload_n 0, 1) := dLaw_536g.2.2.1
theorem dLaw_541 : decode code 541 = .ok (.iload_n 3, 1) := dLaw_536g.2.2.2.1
theorem dLaw_542 : decode code 542 = .ok (.iconst 1, 1) := dLaw_536g.2.2.2.2.1
theorem dLaw_543 : decode code 543 = .ok (.iadd, 1) := dLaw_536g.2.2.2.2.2.1
theorem dLaw_544 : decode code 544 = .ok (.iaload, 1) := dLaw_536g.2.2.2.2.2.2.1
theorem dLaw_545 : decode code 545 = .ok (.aload_n 0, 1) := dLaw_536g.2.2.2.2.2.2.2.1
theorem dLaw_546 : decode code 546 = .ok (.iload_n 3, 1) := dLaw_536g.2.2.2.2.2.2.2.2.1
theorem dLaw_547 : decode code 547 = .ok (.iconst 2, 1) := dLaw_536g.2.2.2.2.2.2.2.2.2
theorem dLaw_548g : (decode code 548 = .ok (.iadd, 1)) ∧ (decode code 549 = .ok (.iaload, 1)) ∧ (decode code 550 = .ok (.invokevirtual 45, 3)) ∧ (decode code 553 = .ok (.pop, 1)) ∧ (decode code 554 = .ok (.aload_n 2, 1)) ∧ (decode code 555 = .ok (.aload_n 0, 1)) ∧ (decode code 556 = .ok (.iload_n 3, 1)) ∧ (decode code 557 = .ok (.iconst 1, 1)) ∧ (decode code 558 = .ok (.iadd, 1)) ∧ (decode code 559 = .ok (.iaload, 1)) := by decide +kernel
theorem dLaw_548 : decode code 548 = .ok (.iadd, 1) := dLaw_548g.1
theorem dLaw_549 : decode code 549 = .ok (.iaload, 1) := dLaw_548g.2.1
theorem dLaw_550 : decode code 550 = .ok (.invokevirtual 45, 3) := dLaw_548g.2.2.1
theorem dLaw_553 : decode code 553 = .ok (.pop, 1) := dLaw_548g.2.2.2.1
theorem dLaw_554 : decode code 554 = .ok (.aload_n 2, 1) := dLaw_548g.2.2.2.2.1
theorem dLaw_555 : decode code 555 = .ok (.aload_n 0, 1) := dLaw_548g.2.2.2.2.2.1
theorem dLaw_556 : decode code 556 = .ok (.iload_n 3, 1) := dLaw_548g.2.2.2.2.2.2.1
theorem dLaw_557 : decode code 557 = .ok (.iconst 1, 1) := dLaw_548g.2.2.2.2.2.2.2.1
theorem dLaw_558 : decode code 558 = .ok (.iadd, 1) := dLaw_548g.2.2.2.2.2.2.2.2.1
theorem dLaw_559 : decode code 559 = .ok (.iaload, 1) := dLaw_548g.2.2.2.2.2.2.2.2.2
theorem dLaw_560g : (decode code 560 = .ok (.aload_n 0, 1)) ∧ (decode code 561 = .ok (.iload_n 3, 1)) ∧ (decode code 562 = .ok (.iconst 2, 1)) ∧ (decode code 563 = .ok (.iadd, 1)) ∧ (decode code 564 = .ok (.iaload, 1)) ∧ (decode code 565 = .ok (.invokevirtual 48, 3)) ∧ (decode code 568 = .ok (.pop, 1)) ∧ (decode code 569 = .ok (.goto 1435, 3)) ∧ (decode code 572 = .ok (.aload_n 1, 1)) ∧ (decode code 573 = .ok (.aload_n 0, 1)) := by decide +kernel
theorem dLaw_560 : decode code 560 = .ok (.aload_n 0, 1) := dLaw_560g.1
theorem dLaw_561 : decode code 561 = .ok (.iload_n 3, 1) := dLaw_560g.2.1
theorem dLaw_562 : decode code 562 = .ok (.iconst 2, 1) := dLaw_560g.2.2.1
theorem dLaw_563 : decode code 563 = .ok (.iadd, 1) := dLaw_560g.2.2.2.1
theorem dLaw_564 : decode code 564 = .ok (.iaload, 1) := dLaw_560g.2.2.2.2.1
theorem dLaw_565 : decode code 565 = .ok (.invokevirtual 48, 3) := dLaw_560g.2.2.2.2.2.1
theorem dLaw_568 : decode code 568 = .ok (.pop, 1) := dLaw_560g.2.2.2.2.2.2.1
theorem dLaw_569 : decode code 569 = .ok (.goto 1435, 3) := dLaw_560g.2.2.2.2.2.2.2.1
theorem dLaw_572 : decode code 572 = .ok (.aload_n 1, 1) := dLaw_560g.2.2.2.2.2.2.2.2.1
theorem dLaw_573 : decode code 573 = .ok (.aload_n 0, 1) := dLaw_560g.2.2.2.2.2.2.2.2.2
theorem dLaw_574g : (decode code 574 = .ok (.iload_n 3, 1)) ∧ (decode code 575 = .ok (.iconst 1, 1)) ∧ (decode code 576 = .ok (.iadd, 1)) ∧ (decode code 577 = .ok (.iaload, 1)) ∧ (decode code 578 = .ok (.aload_n 0, 1)) ∧ (decode code 579 = .ok (.iload_n 3, 1)) ∧ (decode code 580 = .ok (.iconst 2, 1)) ∧ (decode code 581 = .ok (.iadd, 1)) ∧ (decode code 582 = .ok (.iaload, 1)) ∧ (decode code 583 = .ok (.aload_n 0, 1)) := by decide +kernel
theorem dLaw_574 : decode code 574 = .ok (.iload_n 3, 1) := dLaw_574g.1
theorem dLaw_575 : decode code 575 = .ok (.iconst 1, 1) := dLaw_574g.2.1
theorem dLaw_576 : decode code 576 = .ok (.iadd, 1) := dLaw_574g.2.2.1
theorem dLaw_577 : decode code 577 = .ok (.iaload, 1) := dLaw_574g.2.2.2.1
theorem dLaw_578 : decode code 578 = .ok (.aload_n 0, 1) := dLaw_574g.2.2.2.2.1
theorem dLaw_579 : decode code 579 = .ok (.iload_n 3, 1) := dLaw_574g.2.2.2.2.2.1
theorem dLaw_580 : decode code 580 = .ok (.iconst 2, 1) := dLaw_574g.2.2.2.2.2.2.1
theorem dLaw_581 : decode code 581 = .ok (.iadd, 1) := dLaw_574g.2.2.2.2.2.2.2.1
theorem dLaw_582 : decode code 582 = .ok (.iaload, 1) := dLaw_574g.2.2.2.2.2.2.2.2.1
theorem dLaw_583 : decode code 583 = .ok (.aload_n 0, 1) := dLaw_574g.2.2.2.2.2.2.2.2.2
