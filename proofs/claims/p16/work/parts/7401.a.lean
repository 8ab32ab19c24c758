theorem da9_dL_law_448 : (decode cL_law 448 = .ok (.aload_n 1, 1)) ∧ (decode cL_law 449 = .ok (.invokevirtual 49, 3)) ∧ (decode cL_law 452 = .ok (.pop, 1)) ∧ (decode cL_law 453 = .ok (.aload_n 2, 1)) ∧ (decode cL_law 454 = .ok (.invokevirtual 52, 3)) ∧ (decode cL_law 457 = .ok (.pop, 1)) ∧ (decode cL_law 458 = .ok (.goto 613, 3)) ∧ (decode cL_law 461 = .ok (.aload_n 1, 1)) ∧ (decode cL_law 462 = .ok (.invokevirtual 53, 3)) ∧ (decode cL_law 465 = .ok (.pop, 1)) ∧ (decode cL_law 466 = .ok (.aload_n 2, 1)) ∧ (decode cL_law 467 = .ok (.invokevirtual 56, 3)) ∧ (decode cL_law 470 = .ok (.pop, 1)) ∧ (decode cL_law 471 = .ok (.goto 600, 3)) ∧ (decode cL_law 474 = .ok (.aload_n 1, 1)) ∧ (decode cL_law 475 = .ok (.invokevirtual 57, 3)) := by decide +kernel
theorem dL_law_448 : decode cL_law 448 = .ok (.aload_n 1, 1) := da9_dL_law_448.1
theorem dL_law_449 : decode cL_law 449 = .ok (.invokevirtual 49, 3) := da9_dL_law_448.2.1
theorem dL_law_452 : decode cL_law 452 = .ok (.pop, 1) := da9_dL_law_448.2.2.1
theorem dL_law_453 : decode cL_law 453 = .ok (.aload_n 2, 1) := da9_dL_law_448.2.2.2.1
theorem dL_law_454 : decode cL_law 454 = .ok (.invokevirtual 52, 3) := da9_dL_law_448.2.2.2.2.1
theorem dL_law_457 : decode cL_law 457 = .ok (.pop, 1) := da9_dL_law_448.2.2.2.2.2.1
theorem dL_law_458 : decode cL_law 458 = .ok (.goto 613, 3) := da9_dL_law_448.2.2.2.2.2.2.1
theorem dL_law_461 : decode cL_law 461 = .ok (.aload_n 1, 1) := da9_dL_law_448.2.2.2.2.2.2.2.1
theorem dL_law_462 : decode cL_law 462 = .ok (.invokevirtual 53, 3) := da9_dL_law_448.2.2.2.2.2.2.2.2.1
theorem dL_law_465 : decode cL_law 465 = .ok (.pop, 1) := da9_dL_law_448.2.2.2.2.2.2.2.2.2.1
theorem dL_law_466 : decode cL_law 466 = .ok (.aload_n 2, 1) := da9_dL_law_448.2.2.2.2.2.2.2.2.2.2.1
theorem dL_law_467 : decode cL_law 467 = .ok (.invokevirtual 56, 3) := da9_dL_law_448.2.2.2.2.2.2.2.2.2.2.2.1
theorem dL_law_470 : decode cL_law 470 = .ok (.pop, 1) := da9_dL_law_448.2.2.2.2.2.2.2.2.2.2.2.2.1
theorem dL_law_471 : decode cL_law 471 = .ok (.goto 600, 3) := da9_dL_law_448.2.2.2.2.2.2.2.2.2.2.2.2.2.1
theorem dL_law_474 : decode cL_law 474 = .ok (.aload_n 1, 1) := da9_dL_law_448.2.2.2.2.2.2.2.2.2.2.2.2.2.2.1
theorem dL_law_475 : decode cL_law 475 = .ok (.invokevirtual 57, 3) := da9_dL_law_448.2.2.2.2.2.2.2.2.2.2.2.2.2.2.2
theorem da9_dL_law_478 : (decode cL_law 478 = .ok (.pop, 1)) ∧ (decode cL_law 479 = .ok (.aload_n 2, 1)) ∧ (decode cL_law 480 = .ok (.invokevirtual 60, 3)) ∧ (decode cL_law 483 = .ok (.pop, 1)) ∧ (decode cL_law 484 = .ok (.goto 587, 3)) ∧ (decode cL_law 487 = .ok (.aload_n 1, 1)) ∧ (decode cL_law 488 = .ok (.invokevirtual 61, 3)) ∧ (decode cL_law 491 = .ok (.pop, 1)) ∧ (decode cL_law 492 = .ok (.aload_n 2, 1)) ∧ (decode cL_law 493 = .ok (.invokevirtual 64, 3)) ∧ (decode cL_law 496 = .ok (.pop, 1)) ∧ (decode cL_law 497 = .ok (.goto 574, 3)) ∧ (decode cL_law 500 = .ok (.aload_n 1, 1)) ∧ (decode cL_law 501 = .ok (.aload_n 0, 1)) ∧ (decode cL_law 502 = .ok (.iload_n 3, 1)) ∧ (decode cL_law 503 = .ok (.iconst 1, 1)) := by decide +kernel
theorem dL_law_478 : decode cL_law 478 = .ok (.pop, 1) := da9_dL_law_478.1
theorem dL_law_479 : decode cL_law 479 = .ok (.aload_n 2, 1) := da9_dL_law_478.2.1
theorem dL_law_480 : decode cL_law 480 = .ok (.invokevirtual 60, 3) := da9_dL_law_478.2.2.1
theorem dL_law_483 : decode cL_law 483 = .ok (.pop, 1) := da9_dL_law_478.2.2.2.1
theorem dL_law_484 : decode cL_law 484 = .ok (.goto 587, 3) := da9_dL_law_478.2.2.2.2.1
theorem dL_law_487 : decode cL_law 487 = .ok (.aload_n 1, 1) := da9_dL_law_478.2.2.2.2.2.1
theorem dL_law_488 : decode cL_law 488 = .ok (.invokevirtual 61, 3) := da9_dL_law_478.2.2.2.2.2.2.1
theorem dL_law_491 : decode cL_law 491 = .ok (.pop, 1) := da9_dL_law_478.2.2.2.2.2.2.2.1
theorem dL_law_492 : decode cL_law 492 = .ok (.aload_n 2, 1) := da9_dL_law_478.2.2.2.2.2.2.2.2.1
theorem dL_law_493 : decode cL_law 493 = .ok (.invokevirtual 64, 3) := da9_dL_law_478.2.2.2.2.2.2.2.2.2.1
theorem dL_law_496 : decode cL_law 496 = .ok (.pop, 1) := da9_dL_law_478.2.2.2.2.2.2.2.2.2.2.1
theorem dL_law_497 : decode cL_law 497 = .ok (.goto 574, 3) := da9_dL_law_478.2.2.2.2.2.2.2.2.2.2.2.1
theorem dL_law_500 : decode cL_law 500 = .ok (.aload_n 1, 1) := da9_dL_law_478.2.2.2.2.2.2.2.2.2.2.2.2.1
theorem dL_law_501 : decode cL_law 501 = .ok (.aload_n 0, 1) := da9_dL_law_478.2.2.2.2.2.2.2.2.2.2.2.2.2.1
theorem dL_law_502 : decode cL_law 502 = .ok (.iload_n 3, 1) := da9_dL_law_478.2.2.2.2.2.2.2.2.2.2.2.2.2.2.1
theorem dL_law_503 : decode cL_law 503 = .ok (.iconst 1, 1) := da9_dL_law_478.2.2.2.2.2.2.2.2.2.2.2.2.2.2.2
theorem da9_dL_law_504 : (decode cL_law 504 = .ok (.iadd, 1)) ∧ (decode cL_law 505 = .ok (.iaload, 1)) ∧ (decode cL_law 506 = .ok (.invokevirtual 65, 3)) ∧ (decode cL_law 509 = .ok (.pop, 1)) ∧ (decode cL_law 510 = .ok (.aload_n 2, 1)) ∧ (decode cL_law 511 = .ok (.aload_n 0, 1)) ∧ (decode cL_law 512 = .ok (.iload_n 3, 1)) ∧ (decode cL_law 513 = .ok (.iconst 1, 1)) ∧ (decode cL_law 514 = .ok (.iadd, 1)) ∧ (decode cL_law 515 = .ok (.iaload, 1)) ∧ (decode cL_law 516 = .ok (.invokevirtual 68, 3)) ∧ (decode cL_law 519 = .ok (.pop, 1)) ∧ (decode cL_law 520 = .ok (.goto 551, 3)) ∧ (decode cL_law 523 = .ok (.aload_n 1, 1)) ∧ (decode cL_law 524 = .ok (.aload_n 0, 1)) ∧ (decode cL_law 525 = .ok (.iload_n 3, 1)) := by decide +kernel
theorem dL_law_504 : decode cL_law 504 = .ok (.iadd, 1) := da9_dL_law_504.1
theorem dL_law_505 : decode cL_law 505 = .ok (.iaload, 1) := da9_dL_law_504.2.1
theorem dL_law_506 : decode cL_law 506 = .ok (.invokevirtual 65, 3) := da9_dL_law_504.2.2.1
theorem dL_law_509 : decode cL_law 509 = .ok (.pop, 1) := da9_dL_law_504.2.2.2.1
theorem dL_law_510 : decode cL_law 510 = .ok (.aload_n 2, 1) := da9_dL_law_504.2.2.2.2.1
theorem dL_law_511 : decode cL_law 511 = .ok (.aload_n 0, 1) := da9_dL_law_504.2.2.2.2.2.1
theorem dL_law_512 : decode cL_law 512 = .ok (.iload_n 3, 1) := da9_dL_law_504.2.2.2.2.2.2.1
theorem dL_law_513 : decode cL_law 513 = .ok (.iconst 1, 1) := da9_dL_law_504.2.2.2.2.2.2.2.1
theorem dL_law_514 : decode cL_law 514 = .ok (.iadd, 1) := da9_dL_law_504.2.2.2.2.2.2.2.2.1
theorem dL_law_515 : decode cL_law 515 = .ok (.iaload, 1) := da9_dL_law_504.2.2.2.2.2.2.2.2.2.1
theorem dL_law_516 : decode cL_law 516 = .ok (.invokevirtual 68, 3) := da9_dL_law_504.2.2.2.2.2.2.2.2.2.2.1
theorem dL_law_519 : decode cL_law 519 = .ok (.pop, 1) := da9_dL_law_504.2.2.2.2.2.2.2.2.2.2.2.1
theorem dL_law_520 : decode cL_law 520 = .ok (.goto 551, 3) := da9_dL_law_504.2.2.2.2.2.2.2.2.2.2.2.2.1
theorem dL_law_523 : decode cL_law 523 = .ok (.aload_n 1, 1) := da9_dL_law_504.2.2.2.2.2.2.2.2.2.2.2.2.2.1
theorem dL_law_524 : decode cL_law 524 = .ok (.aload_n 0, 1) := da9_dL_law_504.2.2.2.2.2.2.2.2.2.2.2.2.2.2.1
theorem dL_law_525 : decode cL_law 525 = .ok (.iload_n 3, 1) := da9_dL_law_504.2.2.2.2.2.2.2.2.2.2.2.2.2.2.2
theorem da9_dL_law_526 : (decode cL_law 526 = .ok (.iconst 1, 1)) ∧ (decode cL_law 527 = .ok (.iadd, 1)) ∧ (decode cL_law 528 = .ok (.iaload, 1)) ∧ (decode cL_law 529 = .ok (.invokevirtual 69, 3)) ∧ (decode cL_law 532 = .ok (.pop, 1)) ∧ (decode cL_law 533 = .ok (.aload_n 2, 1)) ∧ (decode cL_law 534 = .ok (.aload_n 0, 1)) ∧ (decode cL_law 535 = .ok (.iload_n 3, 1)) ∧ (decode cL_law 536 = .ok (.iconst 1, 1)) ∧ (decode cL_law 537 = .ok (.iadd, 1)) ∧ (decode cL_law 538 = .ok (.iaload, 1)) ∧ (decode cL_law 539 = .ok (.invokevirtual 72, 3)) ∧ (decode cL_law 542 = .ok (.pop, 1)) ∧ (decode cL_law 543 = .ok (.goto 528, 3)) ∧ (decode cL_law 546 = .ok (.aload_n 1, 1)) ∧ (decode cL_law 547 = .ok (.aload_n 0, 1)) := by decide +kernel
theorem dL_law_526 : decode cL_law 526 = .ok (.iconst 1, 1) := da9_dL_law_526.1
theorem dL_law_527 : decode cL_law 527 = .ok (.iadd, 1) := da9_dL_law_526.2.1
theorem dL_law_528 : decode cL_law 528 = .ok (.iaload, 1) := da9_dL_law_526.2.2.1
theorem dL_law_529 : decode cL_law 529 = .ok (.invokevirtual 69, 3) := da9_dL_law_526.2.2.2.1
theorem dL_law_532 : decode cL_law 532 = .ok (.pop, 1) := da9_dL_law_526.2.2.2.2.1
theorem dL_law_533 : decode cL_law 533 = .ok (.aload_n 2, 1) := da9_dL_law_526.2.2.2.2.2.1
theorem dL_law_534 : decode cL_law 534 = .ok (.aload_n 0, 1) := da9_dL_law_526.2.2.2.2.2.2.1
theorem dL_law_535 : decode cL_law 535 = .ok (.iload_n 3, 1) := da9_dL_law_526.2.2.2.2.2.2.2.1
theorem dL_law_536 : decode cL_law 536 = .ok (.iconst 1, 1) := da9_dL_law_526.2.2.2.2.2.2.2.2.1
theorem dL_law_537 : decode cL_law 537 = .ok (.iadd, 1) := da9_dL_law_526.2.2.2.2.2.2.2.2.2.1
theorem dL_law_538 : decode cL_law 538 = .ok (.iaload, 1) := da9_dL_law_526.2.2.2.2.2.2.2.2.2.2.1
theorem dL_law_539 : decode cL_law 539 = .ok (.invokevirtual 72, 3) := da9_dL_law_526.2.2.2.2.2.2.2.2.2.2.2.1
theorem dL_law_542 : decode cL_law 542 = .ok (.pop, 1) := da9_dL_law_526.2.2.2.2.2.2.2.2.2.2.2.2.1
theorem dL_law_543 : decode cL_law 543 = .ok (.goto 528, 3) := da9_dL_law_526.2.2.2.2.2.2.2.2.2.2.2.2.2.1
theorem dL_law_546 : decode cL_law 546 = .ok (.aload_n 1, 1) := da9_dL_law_526.2.2.2.2.2.2.2.2.2.2.2.2.2.2.1
theorem dL_law_547 : decode cL_law 547 = .ok (.aload_n 0, 1) := da9_dL_law_526.2.2.2.2.2.2.2.2.2.2.2.2.2.2.2
theorem da9_dL_law_548 : (decode cL_law 548 = .ok (.iload_n 3, 1)) ∧ (decode cL_law 549 = .ok (.iconst 1, 1)) ∧ (decode cL_law 550 = .ok (.iadd, 1)) ∧ (decode cL_law 551 = .ok (.iaload, 1)) ∧ (decode cL_law 552 = .ok (.invokevirtual 73, 3)) ∧ (decode cL_law 555 = .ok (.aload_n 2, 1)) ∧ (decode cL_law 556 = .ok (.aload_n 0, 1)) ∧ (decode cL_law 557 = .ok (.iload_n 3, 1)) ∧ (decode cL_law 558 = .ok (.iconst 1, 1)) ∧ (decode cL_law 559 = .ok (.iadd, 1)) ∧ (decode cL_law 560 = .ok (.iaload, 1)) ∧ (decode cL_law 561 = .ok (.invokevirtual 76, 3)) ∧ (decode cL_law 564 = .ok (.if_icmp .eq 507, 3)) ∧ (decode cL_law 569 = .ok (.aload_n 1, 1)) ∧ (decode cL_law 570 = .ok (.aload_n 0, 1)) ∧ (decode cL_law 571 = .ok (.iload_n 3, 1)) := by decide +kernel
theorem dL_law_548 : decode cL_law 548 = .ok (.iload_n 3, 1) := da9_dL_law_548.1
theorem dL_law_549 : decode cL_law 549 = .ok (.iconst 1, 1) := da9_dL_law_548.2.1
theorem dL_law_550 : decode cL_law 550 = .ok (.iadd, 1) := da9_dL_law_548.2.2.1
theorem dL_law_551 : decode cL_law 551 = .ok (.iaload, 1) := da9_dL_law_548.2.2.2.1
theorem dL_law_552 : decode cL_law 552 = .ok (.invokevirtual 73, 3) := da9_dL_law_548.2.2.2.2.1
theorem dL_law_555 : decode cL_law 555 = .ok (.aload_n 2, 1) := da9_dL_law_548.2.2.2.2.2.1
theorem dL_law_556 : decode cL_law 556 = .ok (.aload_n 0, 1) := da9_dL_law_548.2.2.2.2.2.2.1
theorem dL_law_557 : decode cL_law 557 = .ok (.iload_n 3, 1) := da9_dL_law_548.2.2.2.2.2.2.2.1
theorem dL_law_558 : decode cL_law 558 = .ok (.iconst 1, 1) := da9_dL_law_548.2.2.2.2.2.2.2.2.1
theorem dL_law_559 : decode cL_law 559 = .ok (.iadd, 1) := da9_dL_law_548.2.2.2.2.2.2.2.2.2.1
theorem dL_law_560 : decode cL_law 560 = .ok (.iaload, 1) := da9_dL_law_548.2.2.2.2.2.2.2.2.2.2.1
theorem dL_law_561 : decode cL_law 561 = .ok (.invokevirtual 76, 3) := da9_dL_law_548.2.2.2.2.2.2.2.2.2.2.2.1
theorem dL_law_564 : decode cL_law 564 = .ok (.if_icmp .eq 507, 3) := da9_dL_law_548.2.2.2.2.2.2.2.2.2.2.2.2.1
theorem dL_law_569 : decode cL_law 569 = .ok (.aload_n 1, 1) := da9_dL_law_548.2.2.2.2.2.2.2.2.2.2.2.2.2.1
theorem dL_law_570 : decode cL_law 570 = .ok (.aload_n 0, 1) := da9_dL_law_548.2.2.2.2.2.2.2.2.2.2.2.2.2.2.1
theorem dL_law_571 : decode cL_law 571 = .ok (.iload_n 3, 1) := da9_dL_law_548.2.2.2.2.2.2.2.2.2.2.2.2.2.2.2
theorem da9_dL_law_572 : (decode cL_law 572 = .ok (.iconst 1, 1)) ∧ (decode cL_law 573 = .ok (.iadd, 1)) ∧ (decode cL_law 574 = .ok (.iaload, 1)) ∧ (decode cL_law 575 = .ok (.invokevirtual 77, 3)) ∧ (decode cL_law 578 = .ok (.pop, 1)) ∧ (decode cL_law 579 = .ok (.aload_n 2, 1)) ∧ (decode cL_law 580 = .ok (.aload_n 0, 1)) ∧ (decode cL_law 581 = .ok (.iload_n 3, 1)) ∧ (decode cL_law 582 = .ok (.iconst 1, 1)) ∧ (decode cL_law 583 = .ok (.iadd, 1)) ∧ (decode cL_law 584 = .ok (.iaload, 1)) ∧ (decode cL_law 585 = .ok (.invokevirtual 80, 3)) ∧ (decode cL_law 588 = .ok (.pop, 1)) ∧ (decode cL_law 589 = .ok (.goto 482, 3)) := by decide +kernel
theorem dL_law_572 : decode cL_law 572 = .ok (.iconst 1, 1) := da9_dL_law_572.1
theorem dL_law_573 : decode cL_law 573 = .ok (.iadd, 1) := da9_dL_law_572.2.1
theorem dL_law_574 : decode cL_law 574 = .ok (.iaload, 1) := da9_dL_law_572.2.2.1
theorem dL_law_575 : decode cL_law 575 = .ok (.invokevirtual 77, 3) := da9_dL_law_572.2.2.2.1
theorem dL_law_578 : decode cL_law 578 = .ok (.pop, 1) := da9_dL_law_572.2.2.2.2.1
theorem dL_law_579 : decode cL_law 579 = .ok (.aload_n 2, 1) := da9_dL_law_572.2.2.2.2.2.1
theorem dL_law_580 : decode cL_law 580 = .ok (.aload_n 0, 1) := da9_dL_law_572.2.2.2.2.2.2.1
theorem dL_law_581 : decode cL_law 581 = .ok (.iload_n 3, 1) := da9_dL_law_572.2.2.2.2.2.2.2.1
theorem dL_law_582 : decode cL_law 582 = .ok (.iconst 1, 1) := da9_dL_law_572.2.2.2.2.2.2.2.2.1
theorem dL_law_583 : decode cL_law 583 = .ok (.iadd, 1) := da9_dL_law_572.2.2.2.2.2.2.2.2.2.1
theorem dL_law_584 : decode cL_law 584 = .ok (.iaload, 1) := da9_dL_law_572.2.2.2.2.2.2.2.2.2.2.1
theorem dL_law_585 : decode cL_law 585 = .ok (.invokevirtual 80, 3) := da9_dL_law_572.2.2.2.2.2.2.2.2.2.2.2.1
theorem dL_law_588 : decode cL_law 588 = .ok (.pop, 1) := da9_dL_law_572.2.2.2.2.2.2.2.2.2.2.2.2.1
theorem dL_law_589 : decode cL_law 589 = .ok (.goto 482, 3) := da9_dL_law_572.2.2.2.2.2.2.2.2.2.2.2.2.2
