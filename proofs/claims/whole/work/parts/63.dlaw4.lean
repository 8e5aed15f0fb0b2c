/-! decode rows of the law (written by wip/whole/mk_law2.py) -/
theorem d_Law_law_448 : decode code 448 = .ok (.ifCond .eq 5, 3) := by decide +kernel
theorem d_Law_law_451 : decode code 451 = .ok (.iconst 0, 1) := by decide +kernel
theorem d_Law_law_452 : decode code 452 = .ok (.ireturn, 1) := by decide +kernel
theorem d_Law_law_453 : decode code 453 = .ok (.goto 388, 3) := by decide +kernel
theorem d_Law_law_456 : decode code 456 = .ok (.aload_n 1, 1) := by decide +kernel
theorem d_Law_law_457 : decode code 457 = .ok (.aload_n 0, 1) := by decide +kernel
theorem d_Law_law_458 : decode code 458 = .ok (.iload 4, 2) := by decide +kernel
theorem d_Law_law_460 : decode code 460 = .ok (.iconst 1, 1) := by decide +kernel
theorem d_Law_law_461 : decode code 461 = .ok (.iadd, 1) := by decide +kernel
theorem d_Law_law_462 : decode code 462 = .ok (.iaload, 1) := by decide +kernel
theorem d_Law_law_463 : decode code 463 = .ok (.aload_n 0, 1) := by decide +kernel
theorem d_Law_law_464 : decode code 464 = .ok (.iload 4, 2) := by decide +kernel
theorem d_Law_law_466 : decode code 466 = .ok (.iconst 2, 1) := by decide +kernel
theorem d_Law_law_467 : decode code 467 = .ok (.iadd, 1) := by decide +kernel
theorem d_Law_law_468 : decode code 468 = .ok (.iaload, 1) := by decide +kernel
theorem d_Law_law_469 : decode code 469 = .ok (.aload_n 3, 1) := by decide +kernel
theorem d_Law_law_470 : decode code 470 = .ok (.invokestatic 90, 3) := by decide +kernel
theorem d_Law_law_473 : decode code 473 = .ok (.istore 5, 2) := by decide +kernel
theorem d_Law_law_475 : decode code 475 = .ok (.aload_n 2, 1) := by decide +kernel
theorem d_Law_law_476 : decode code 476 = .ok (.aload_n 0, 1) := by decide +kernel
theorem d_Law_law_477 : decode code 477 = .ok (.iload 4, 2) := by decide +kernel
theorem d_Law_law_479 : decode code 479 = .ok (.iconst 1, 1) := by decide +kernel
theorem d_Law_law_480 : decode code 480 = .ok (.iadd, 1) := by decide +kernel
theorem d_Law_law_481 : decode code 481 = .ok (.iaload, 1) := by decide +kernel
theorem d_Law_law_482 : decode code 482 = .ok (.aload_n 0, 1) := by decide +kernel
theorem d_Law_law_483 : decode code 483 = .ok (.iload 4, 2) := by decide +kernel
theorem d_Law_law_485 : decode code 485 = .ok (.iconst 2, 1) := by decide +kernel
theorem d_Law_law_486 : decode code 486 = .ok (.iadd, 1) := by decide +kernel
theorem d_Law_law_487 : decode code 487 = .ok (.iaload, 1) := by decide +kernel
theorem d_Law_law_488 : decode code 488 = .ok (.invokevirtual 92, 3) := by decide +kernel
theorem d_Law_law_491 : decode code 491 = .ok (.istore 6, 2) := by decide +kernel
theorem d_Law_law_493 : decode code 493 = .ok (.aload_n 2, 1) := by decide +kernel
theorem d_Law_law_494 : decode code 494 = .ok (.invokevirtual 69, 3) := by decide +kernel
theorem d_Law_law_497 : decode code 497 = .ok (.iload 5, 2) := by decide +kernel
theorem d_Law_law_499 : decode code 499 = .ok (.if_icmp .eq 5, 3) := by decide +kernel
theorem d_Law_law_502 : decode code 502 = .ok (.iconst 0, 1) := by decide +kernel
theorem d_Law_law_503 : decode code 503 = .ok (.ireturn, 1) := by decide +kernel
theorem d_Law_law_504 : decode code 504 = .ok (.iload 5, 2) := by decide +kernel
theorem d_Law_law_506 : decode code 506 = .ok (.ifCond .ne 15, 3) := by decide +kernel
theorem d_Law_law_509 : decode code 509 = .ok (.aload_n 3, 1) := by decide +kernel
theorem d_Law_law_510 : decode code 510 = .ok (.iconst 0, 1) := by decide +kernel
theorem d_Law_law_511 : decode code 511 = .ok (.laload, 1) := by decide +kernel
theorem d_Law_law_512 : decode code 512 = .ok (.iload 6, 2) := by decide +kernel
theorem d_Law_law_514 : decode code 514 = .ok (.i2l, 1) := by decide +kernel
theorem d_Law_law_515 : decode code 515 = .ok (.lcmp, 1) := by decide +kernel
theorem d_Law_law_516 : decode code 516 = .ok (.ifCond .eq 5, 3) := by decide +kernel
theorem d_Law_law_519 : decode code 519 = .ok (.iconst 0, 1) := by decide +kernel
theorem d_Law_law_520 : decode code 520 = .ok (.ireturn, 1) := by decide +kernel
theorem d_Law_law_521 : decode code 521 = .ok (.goto 320, 3) := by decide +kernel
theorem d_Law_law_524 : decode code 524 = .ok (.aload_n 1, 1) := by decide +kernel
theorem d_Law_law_525 : decode code 525 = .ok (.invokevirtual 93, 3) := by decide +kernel
theorem d_Law_law_528 : decode code 528 = .ok (.aload_n 2, 1) := by decide +kernel
theorem d_Law_law_529 : decode code 529 = .ok (.invokevirtual 96, 3) := by decide +kernel
theorem d_Law_law_532 : decode code 532 = .ok (.if_icmp .eq 309, 3) := by decide +kernel
theorem d_Law_law_535 : decode code 535 = .ok (.iconst 0, 1) := by decide +kernel
theorem d_Law_law_536 : decode code 536 = .ok (.ireturn, 1) := by decide +kernel
theorem d_Law_law_537 : decode code 537 = .ok (.aload_n 1, 1) := by decide +kernel
theorem d_Law_law_538 : decode code 538 = .ok (.aload_n 0, 1) := by decide +kernel
theorem d_Law_law_539 : decode code 539 = .ok (.iload 4, 2) := by decide +kernel
theorem d_Law_law_541 : decode code 541 = .ok (.iconst 1, 1) := by decide +kernel
theorem d_Law_law_542 : decode code 542 = .ok (.iadd, 1) := by decide +kernel
theorem d_Law_law_543 : decode code 543 = .ok (.iaload, 1) := by decide +kernel
theorem d_Law_law_544 : decode code 544 = .ok (.aload_n 0, 1) := by decide +kernel
theorem d_Law_law_545 : decode code 545 = .ok (.iload 4, 2) := by decide +kernel
theorem d_Law_law_547 : decode code 547 = .ok (.iconst 2, 1) := by decide +kernel
theorem d_Law_law_548 : decode code 548 = .ok (.iadd, 1) := by decide +kernel
theorem d_Law_law_549 : decode code 549 = .ok (.iaload, 1) := by decide +kernel
theorem d_Law_law_550 : decode code 550 = .ok (.aload_n 3, 1) := by decide +kernel
theorem d_Law_law_551 : decode code 551 = .ok (.invokestatic 97, 3) := by decide +kernel
theorem d_Law_law_554 : decode code 554 = .ok (.istore 5, 2) := by decide +kernel
theorem d_Law_law_556 : decode code 556 = .ok (.aload_n 2, 1) := by decide +kernel
theorem d_Law_law_557 : decode code 557 = .ok (.aload_n 0, 1) := by decide +kernel
theorem d_Law_law_558 : decode code 558 = .ok (.iload 4, 2) := by decide +kernel
theorem d_Law_law_560 : decode code 560 = .ok (.iconst 1, 1) := by decide +kernel
theorem d_Law_law_561 : decode code 561 = .ok (.iadd, 1) := by decide +kernel
theorem d_Law_law_562 : decode code 562 = .ok (.iaload, 1) := by decide +kernel
theorem d_Law_law_563 : decode code 563 = .ok (.aload_n 0, 1) := by decide +kernel
theorem d_Law_law_564 : decode code 564 = .ok (.iload 4, 2) := by decide +kernel
theorem d_Law_law_566 : decode code 566 = .ok (.iconst 2, 1) := by decide +kernel
theorem d_Law_law_567 : decode code 567 = .ok (.iadd, 1) := by decide +kernel
theorem d_Law_law_568 : decode code 568 = .ok (.iaload, 1) := by decide +kernel
theorem d_Law_law_569 : decode code 569 = .ok (.invokevirtual 99, 3) := by decide +kernel
theorem d_Law_law_572 : decode code 572 = .ok (.istore 6, 2) := by decide +kernel
theorem d_Law_law_574 : decode code 574 = .ok (.aload_n 2, 1) := by decide +kernel
