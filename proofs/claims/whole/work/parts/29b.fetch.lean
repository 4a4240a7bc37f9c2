/-! the law, instruction by instruction -/
set_option maxRecDepth 100000 in
theorem f_331_470 : fe 331 470 = some (.iaload, 1, 13, some .boolean) := fe_of pg_331 (by decide +kernel)
set_option maxRecDepth 100000 in
theorem f_331_471 : fe 331 471 = some (.aload_n 0, 1, 13, some .boolean) := fe_of pg_331 (by decide +kernel)
set_option maxRecDepth 100000 in
theorem f_331_472 : fe 331 472 = some (.iload_n 3, 1, 13, some .boolean) := fe_of pg_331 (by decide +kernel)
set_option maxRecDepth 100000 in
theorem f_331_473 : fe 331 473 = some (.iconst 4, 1, 13, some .boolean) := fe_of pg_331 (by decide +kernel)
set_option maxRecDepth 100000 in
theorem f_331_474 : fe 331 474 = some (.iadd, 1, 13, some .boolean) := fe_of pg_331 (by decide +kernel)
set_option maxRecDepth 100000 in
theorem f_331_475 : fe 331 475 = some (.iaload, 1, 13, some .boolean) := fe_of pg_331 (by decide +kernel)
set_option maxRecDepth 100000 in
theorem f_331_476 : fe 331 476 = some (.invokevirtual 49, 3, 13, some .boolean) := fe_of pg_331 (by decide +kernel)
set_option maxRecDepth 100000 in
theorem f_331_479 : fe 331 479 = some (.if_icmp .eq 969, 3, 13, some .boolean) := fe_of pg_331 (by decide +kernel)
set_option maxRecDepth 100000 in
theorem f_331_482 : fe 331 482 = some (.iconst 0, 1, 13, some .boolean) := fe_of pg_331 (by decide +kernel)
set_option maxRecDepth 100000 in
theorem f_331_483 : fe 331 483 = some (.ireturn, 1, 13, some .boolean) := fe_of pg_331 (by decide +kernel)
set_option maxRecDepth 100000 in
theorem f_331_484 : fe 331 484 = some (.aload_n 1, 1, 13, some .boolean) := fe_of pg_331 (by decide +kernel)
set_option maxRecDepth 100000 in
theorem f_331_485 : fe 331 485 = some (.aload_n 0, 1, 13, some .boolean) := fe_of pg_331 (by decide +kernel)
set_option maxRecDepth 100000 in
theorem f_331_486 : fe 331 486 = some (.iload_n 3, 1, 13, some .boolean) := fe_of pg_331 (by decide +kernel)
set_option maxRecDepth 100000 in
theorem f_331_487 : fe 331 487 = some (.iconst 1, 1, 13, some .boolean) := fe_of pg_331 (by decide +kernel)
set_option maxRecDepth 100000 in
theorem f_331_488 : fe 331 488 = some (.iadd, 1, 13, some .boolean) := fe_of pg_331 (by decide +kernel)
set_option maxRecDepth 100000 in
theorem f_331_489 : fe 331 489 = some (.iaload, 1, 13, some .boolean) := fe_of pg_331 (by decide +kernel)
set_option maxRecDepth 100000 in
theorem f_331_490 : fe 331 490 = some (.aload_n 0, 1, 13, some .boolean) := fe_of pg_331 (by decide +kernel)
set_option maxRecDepth 100000 in
theorem f_331_491 : fe 331 491 = some (.iload_n 3, 1, 13, some .boolean) := fe_of pg_331 (by decide +kernel)
set_option maxRecDepth 100000 in
theorem f_331_492 : fe 331 492 = some (.iconst 2, 1, 13, some .boolean) := fe_of pg_331 (by decide +kernel)
set_option maxRecDepth 100000 in
theorem f_331_493 : fe 331 493 = some (.iadd, 1, 13, some .boolean) := fe_of pg_331 (by decide +kernel)
set_option maxRecDepth 100000 in
theorem f_331_494 : fe 331 494 = some (.iaload, 1, 13, some .boolean) := fe_of pg_331 (by decide +kernel)
set_option maxRecDepth 100000 in
theorem f_331_495 : fe 331 495 = some (.aload_n 0, 1, 13, some .boolean) := fe_of pg_331 (by decide +kernel)
set_option maxRecDepth 100000 in
theorem f_331_496 : fe 331 496 = some (.iload_n 3, 1, 13, some .boolean) := fe_of pg_331 (by decide +kernel)
set_option maxRecDepth 100000 in
theorem f_331_497 : fe 331 497 = some (.iconst 3, 1, 13, some .boolean) := fe_of pg_331 (by decide +kernel)
set_option maxRecDepth 100000 in
theorem f_331_498 : fe 331 498 = some (.iadd, 1, 13, some .boolean) := fe_of pg_331 (by decide +kernel)
set_option maxRecDepth 100000 in
theorem f_331_499 : fe 331 499 = some (.iaload, 1, 13, some .boolean) := fe_of pg_331 (by decide +kernel)
set_option maxRecDepth 100000 in
theorem f_331_500 : fe 331 500 = some (.invokevirtual 50, 3, 13, some .boolean) := fe_of pg_331 (by decide +kernel)
set_option maxRecDepth 100000 in
theorem f_331_503 : fe 331 503 = some (.aload_n 2, 1, 13, some .boolean) := fe_of pg_331 (by decide +kernel)
set_option maxRecDepth 100000 in
theorem f_331_504 : fe 331 504 = some (.aload_n 0, 1, 13, some .boolean) := fe_of pg_331 (by decide +kernel)
set_option maxRecDepth 100000 in
theorem f_331_505 : fe 331 505 = some (.iload_n 3, 1, 13, some .boolean) := fe_of pg_331 (by decide +kernel)
set_option maxRecDepth 100000 in
theorem f_331_506 : fe 331 506 = some (.iconst 1, 1, 13, some .boolean) := fe_of pg_331 (by decide +kernel)
set_option maxRecDepth 100000 in
theorem f_331_507 : fe 331 507 = some (.iadd, 1, 13, some .boolean) := fe_of pg_331 (by decide +kernel)
set_option maxRecDepth 100000 in
theorem f_331_508 : fe 331 508 = some (.iaload, 1, 13, some .boolean) := fe_of pg_331 (by decide +kernel)
set_option maxRecDepth 100000 in
theorem f_331_509 : fe 331 509 = some (.aload_n 0, 1, 13, some .boolean) := fe_of pg_331 (by decide +kernel)
set_option maxRecDepth 100000 in
theorem f_331_510 : fe 331 510 = some (.iload_n 3, 1, 13, some .boolean) := fe_of pg_331 (by decide +kernel)
set_option maxRecDepth 100000 in
theorem f_331_511 : fe 331 511 = some (.iconst 2, 1, 13, some .boolean) := fe_of pg_331 (by decide +kernel)
set_option maxRecDepth 100000 in
theorem f_331_512 : fe 331 512 = some (.iadd, 1, 13, some .boolean) := fe_of pg_331 (by decide +kernel)
set_option maxRecDepth 100000 in
theorem f_331_513 : fe 331 513 = some (.iaload, 1, 13, some .boolean) := fe_of pg_331 (by decide +kernel)
set_option maxRecDepth 100000 in
theorem f_331_514 : fe 331 514 = some (.aload_n 0, 1, 13, some .boolean) := fe_of pg_331 (by decide +kernel)
set_option maxRecDepth 100000 in
theorem f_331_515 : fe 331 515 = some (.iload_n 3, 1, 13, some .boolean) := fe_of pg_331 (by decide +kernel)
set_option maxRecDepth 100000 in
theorem f_331_516 : fe 331 516 = some (.iconst 3, 1, 13, some .boolean) := fe_of pg_331 (by decide +kernel)
set_option maxRecDepth 100000 in
theorem f_331_517 : fe 331 517 = some (.iadd, 1, 13, some .boolean) := fe_of pg_331 (by decide +kernel)
set_option maxRecDepth 100000 in
theorem f_331_518 : fe 331 518 = some (.iaload, 1, 13, some .boolean) := fe_of pg_331 (by decide +kernel)
set_option maxRecDepth 100000 in
theorem f_331_519 : fe 331 519 = some (.invokevirtual 53, 3, 13, some .boolean) := fe_of pg_331 (by decide +kernel)
set_option maxRecDepth 100000 in
theorem f_331_522 : fe 331 522 = some (.if_icmp .eq 926, 3, 13, some .boolean) := fe_of pg_331 (by decide +kernel)
set_option maxRecDepth 100000 in
theorem f_331_525 : fe 331 525 = some (.iconst 0, 1, 13, some .boolean) := fe_of pg_331 (by decide +kernel)
set_option maxRecDepth 100000 in
theorem f_331_526 : fe 331 526 = some (.ireturn, 1, 13, some .boolean) := fe_of pg_331 (by decide +kernel)
set_option maxRecDepth 100000 in
theorem f_331_527 : fe 331 527 = some (.aload_n 1, 1, 13, some .boolean) := fe_of pg_331 (by decide +kernel)
set_option maxRecDepth 100000 in
theorem f_331_528 : fe 331 528 = some (.aload_n 0, 1, 13, some .boolean) := fe_of pg_331 (by decide +kernel)
set_option maxRecDepth 100000 in
theorem f_331_529 : fe 331 529 = some (.iload_n 3, 1, 13, some .boolean) := fe_of pg_331 (by decide +kernel)
set_option maxRecDepth 100000 in
theorem f_331_530 : fe 331 530 = some (.iconst 1, 1, 13, some .boolean) := fe_of pg_331 (by decide +kernel)
set_option maxRecDepth 100000 in
theorem f_331_531 : fe 331 531 = some (.iadd, 1, 13, some .boolean) := fe_of pg_331 (by decide +kernel)
set_option maxRecDepth 100000 in
theorem f_331_532 : fe 331 532 = some (.iaload, 1, 13, some .boolean) := fe_of pg_331 (by decide +kernel)
set_option maxRecDepth 100000 in
theorem f_331_533 : fe 331 533 = some (.aload_n 0, 1, 13, some .boolean) := fe_of pg_331 (by decide +kernel)
set_option maxRecDepth 100000 in
theorem f_331_534 : fe 331 534 = some (.iload_n 3, 1, 13, some .boolean) := fe_of pg_331 (by decide +kernel)
set_option maxRecDepth 100000 in
theorem f_331_535 : fe 331 535 = some (.iconst 2, 1, 13, some .boolean) := fe_of pg_331 (by decide +kernel)
set_option maxRecDepth 100000 in
theorem f_331_536 : fe 331 536 = some (.iadd, 1, 13, some .boolean) := fe_of pg_331 (by decide +kernel)
set_option maxRecDepth 100000 in
theorem f_331_537 : fe 331 537 = some (.iaload, 1, 13, some .boolean) := fe_of pg_331 (by decide +kernel)
set_option maxRecDepth 100000 in
theorem f_331_538 : fe 331 538 = some (.invokevirtual 54, 3, 13, some .boolean) := fe_of pg_331 (by decide +kernel)
set_option maxRecDepth 100000 in
theorem f_331_541 : fe 331 541 = some (.aload_n 2, 1, 13, some .boolean) := fe_of pg_331 (by decide +kernel)
set_option maxRecDepth 100000 in
theorem f_331_542 : fe 331 542 = some (.aload_n 0, 1, 13, some .boolean) := fe_of pg_331 (by decide +kernel)
set_option maxRecDepth 100000 in
theorem f_331_543 : fe 331 543 = some (.iload_n 3, 1, 13, some .boolean) := fe_of pg_331 (by decide +kernel)
set_option maxRecDepth 100000 in
theorem f_331_544 : fe 331 544 = some (.iconst 1, 1, 13, some .boolean) := fe_of pg_331 (by decide +kernel)
set_option maxRecDepth 100000 in
theorem f_331_545 : fe 331 545 = some (.iadd, 1, 13, some .boolean) := fe_of pg_331 (by decide +kernel)
set_option maxRecDepth 100000 in
theorem f_331_546 : fe 331 546 = some (.iaload, 1, 13, some .boolean) := fe_of pg_331 (by decide +kernel)
set_option maxRecDepth 100000 in
theorem f_331_547 : fe 331 547 = some (.aload_n 0, 1, 13, some .boolean) := fe_of pg_331 (by decide +kernel)
set_option maxRecDepth 100000 in
theorem f_331_548 : fe 331 548 = some (.iload_n 3, 1, 13, some .boolean) := fe_of pg_331 (by decide +kernel)
set_option maxRecDepth 100000 in
theorem f_331_549 : fe 331 549 = some (.iconst 2, 1, 13, some .boolean) := fe_of pg_331 (by decide +kernel)
set_option maxRecDepth 100000 in
theorem f_331_550 : fe 331 550 = some (.iadd, 1, 13, some .boolean) := fe_of pg_331 (by decide +kernel)
set_option maxRecDepth 100000 in
theorem f_331_551 : fe 331 551 = some (.iaload, 1, 13, some .boolean) := fe_of pg_331 (by decide +kernel)
set_option maxRecDepth 100000 in
theorem f_331_552 : fe 331 552 = some (.invokevirtual 57, 3, 13, some .boolean) := fe_of pg_331 (by decide +kernel)
set_option maxRecDepth 100000 in
theorem f_331_555 : fe 331 555 = some (.if_icmp .eq 893, 3, 13, some .boolean) := fe_of pg_331 (by decide +kernel)
set_option maxRecDepth 100000 in
theorem f_331_558 : fe 331 558 = some (.iconst 0, 1, 13, some .boolean) := fe_of pg_331 (by decide +kernel)
set_option maxRecDepth 100000 in
theorem f_331_559 : fe 331 559 = some (.ireturn, 1, 13, some .boolean) := fe_of pg_331 (by decide +kernel)
set_option maxRecDepth 100000 in
theorem f_331_560 : fe 331 560 = some (.aload_n 1, 1, 13, some .boolean) := fe_of pg_331 (by decide +kernel)
set_option maxRecDepth 100000 in
theorem f_331_561 : fe 331 561 = some (.aload_n 0, 1, 13, some .boolean) := fe_of pg_331 (by decide +kernel)
set_option maxRecDepth 100000 in
theorem f_331_562 : fe 331 562 = some (.iload_n 3, 1, 13, some .boolean) := fe_of pg_331 (by decide +kernel)
set_option maxRecDepth 100000 in
theorem f_331_563 : fe 331 563 = some (.iconst 1, 1, 13, some .boolean) := fe_of pg_331 (by decide +kernel)
set_option maxRecDepth 100000 in
theorem f_331_564 : fe 331 564 = some (.iadd, 1, 13, some .boolean) := fe_of pg_331 (by decide +kernel)
set_option maxRecDepth 100000 in
theorem f_331_565 : fe 331 565 = some (.iaload, 1, 13, some .boolean) := fe_of pg_331 (by decide +kernel)
set_option maxRecDepth 100000 in
theorem f_331_566 : fe 331 566 = some (.aload_n 0, 1, 13, some .boolean) := fe_of pg_331 (by decide +kernel)
set_option maxRecDepth 100000 in
theorem f_331_567 : fe 331 567 = some (.iload_n 3, 1, 13, some .boolean) := fe_of pg_331 (by decide +kernel)
set_option maxRecDepth 100000 in
theorem f_331_568 : fe 331 568 = some (.iconst 2, 1, 13, some .boolean) := fe_of pg_331 (by decide +kernel)
set_option maxRecDepth 100000 in
theorem f_331_569 : fe 331 569 = some (.iadd, 1, 13, some .boolean) := fe_of pg_331 (by decide +kernel)
set_option maxRecDepth 100000 in
theorem f_331_570 : fe 331 570 = some (.iaload, 1, 13, some .boolean) := fe_of pg_331 (by decide +kernel)
set_option maxRecDepth 100000 in
theorem f_331_571 : fe 331 571 = some (.invokevirtual 58, 3, 13, some .boolean) := fe_of pg_331 (by decide +kernel)
set_option maxRecDepth 100000 in
theorem f_331_574 : fe 331 574 = some (.aload_n 2, 1, 13, some .boolean) := fe_of pg_331 (by decide +kernel)
set_option maxRecDepth 100000 in
theorem f_331_575 : fe 331 575 = some (.aload_n 0, 1, 13, some .boolean) := fe_of pg_331 (by decide +kernel)
set_option maxRecDepth 100000 in
theorem f_331_576 : fe 331 576 = some (.iload_n 3, 1, 13, some .boolean) := fe_of pg_331 (by decide +kernel)
set_option maxRecDepth 100000 in
theorem f_331_577 : fe 331 577 = some (.iconst 1, 1, 13, some .boolean) := fe_of pg_331 (by decide +kernel)
set_option maxRecDepth 100000 in
theorem f_331_578 : fe 331 578 = some (.iadd, 1, 13, some .boolean) := fe_of pg_331 (by decide +kernel)
set_option maxRecDepth 100000 in
theorem f_331_579 : fe 331 579 = some (.iaload, 1, 13, some .boolean) := fe_of pg_331 (by decide +kernel)
set_option maxRecDepth 100000 in
theorem f_331_580 : fe 331 580 = some (.aload_n 0, 1, 13, some .boolean) := fe_of pg_331 (by decide +kernel)
set_option maxRecDepth 100000 in
theorem f_331_581 : fe 331 581 = some (.iload_n 3, 1, 13, some .boolean) := fe_of pg_331 (by decide +kernel)
set_option maxRecDepth 100000 in
theorem f_331_582 : fe 331 582 = some (.iconst 2, 1, 13, some .boolean) := fe_of pg_331 (by decide +kernel)
set_option maxRecDepth 100000 in
theorem f_331_583 : fe 331 583 = some (.iadd, 1, 13, some .boolean) := fe_of pg_331 (by decide +kernel)
set_option maxRecDepth 100000 in
theorem f_331_584 : fe 331 584 = some (.iaload, 1, 13, some .boolean) := fe_of pg_331 (by decide +kernel)
set_option maxRecDepth 100000 in
theorem f_331_585 : fe 331 585 = some (.invokevirtual 61, 3, 13, some .boolean) := fe_of pg_331 (by decide +kernel)
set_option maxRecDepth 100000 in
theorem f_331_588 : fe 331 588 = some (.if_icmp .eq 860, 3, 13, some .boolean) := fe_of pg_331 (by decide +kernel)
set_option maxRecDepth 100000 in
theorem f_331_591 : fe 331 591 = some (.iconst 0, 1, 13, some .boolean) := fe_of pg_331 (by decide +kernel)
set_option maxRecDepth 100000 in
theorem f_331_592 : fe 331 592 = some (.ireturn, 1, 13, some .boolean) := fe_of pg_331 (by decide +kernel)
set_option maxRecDepth 100000 in
theorem f_331_593 : fe 331 593 = some (.aload_n 1, 1, 13, some .boolean) := fe_of pg_331 (by decide +kernel)
set_option maxRecDepth 100000 in
theorem f_331_594 : fe 331 594 = some (.aload_n 0, 1, 13, some .boolean) := fe_of pg_331 (by decide +kernel)
set_option maxRecDepth 100000 in
theorem f_331_595 : fe 331 595 = some (.iload_n 3, 1, 13, some .boolean) := fe_of pg_331 (by decide +kernel)
set_option maxRecDepth 100000 in
theorem f_331_596 : fe 331 596 = some (.iconst 1, 1, 13, some .boolean) := fe_of pg_331 (by decide +kernel)
set_option maxRecDepth 100000 in
theorem f_331_597 : fe 331 597 = some (.iadd, 1, 13, some .boolean) := fe_of pg_331 (by decide +kernel)
set_option maxRecDepth 100000 in
theorem f_331_598 : fe 331 598 = some (.iaload, 1, 13, some .boolean) := fe_of pg_331 (by decide +kernel)
set_option maxRecDepth 100000 in
theorem f_331_599 : fe 331 599 = some (.aload_n 0, 1, 13, some .boolean) := fe_of pg_331 (by decide +kernel)
set_option maxRecDepth 100000 in
theorem f_331_600 : fe 331 600 = some (.iload_n 3, 1, 13, some .boolean) := fe_of pg_331 (by decide +kernel)
set_option maxRecDepth 100000 in
theorem f_331_601 : fe 331 601 = some (.iconst 2, 1, 13, some .boolean) := fe_of pg_331 (by decide +kernel)
set_option maxRecDepth 100000 in
theorem f_331_602 : fe 331 602 = some (.iadd, 1, 13, some .boolean) := fe_of pg_331 (by decide +kernel)
set_option maxRecDepth 100000 in
theorem f_331_603 : fe 331 603 = some (.iaload, 1, 13, some .boolean) := fe_of pg_331 (by decide +kernel)
set_option maxRecDepth 100000 in
theorem f_331_604 : fe 331 604 = some (.aload_n 0, 1, 13, some .boolean) := fe_of pg_331 (by decide +kernel)
set_option maxRecDepth 100000 in
theorem f_331_605 : fe 331 605 = some (.iload_n 3, 1, 13, some .boolean) := fe_of pg_331 (by decide +kernel)
set_option maxRecDepth 100000 in
theorem f_331_606 : fe 331 606 = some (.iconst 3, 1, 13, some .boolean) := fe_of pg_331 (by decide +kernel)
set_option maxRecDepth 100000 in
theorem f_331_607 : fe 331 607 = some (.iadd, 1, 13, some .boolean) := fe_of pg_331 (by decide +kernel)
set_option maxRecDepth 100000 in
theorem f_331_608 : fe 331 608 = some (.iaload, 1, 13, some .boolean) := fe_of pg_331 (by decide +kernel)
set_option maxRecDepth 100000 in
theorem f_331_609 : fe 331 609 = some (.aload_n 0, 1, 13, some .boolean) := fe_of pg_331 (by decide +kernel)
set_option maxRecDepth 100000 in
theorem f_331_610 : fe 331 610 = some (.iload_n 3, 1, 13, some .boolean) := fe_of pg_331 (by decide +kernel)
set_option maxRecDepth 100000 in
theorem f_331_611 : fe 331 611 = some (.iconst 4, 1, 13, some .boolean) := fe_of pg_331 (by decide +kernel)
set_option maxRecDepth 100000 in
theorem f_331_612 : fe 331 612 = some (.iadd, 1, 13, some .boolean) := fe_of pg_331 (by decide +kernel)
set_option maxRecDepth 100000 in
theorem f_331_613 : fe 331 613 = some (.iaload, 1, 13, some .boolean) := fe_of pg_331 (by decide +kernel)
set_option maxRecDepth 100000 in
theorem f_331_614 : fe 331 614 = some (.invokevirtual 62, 3, 13, some .boolean) := fe_of pg_331 (by decide +kernel)
set_option maxRecDepth 100000 in
theorem f_331_617 : fe 331 617 = some (.aload_n 2, 1, 13, some .boolean) := fe_of pg_331 (by decide +kernel)
set_option maxRecDepth 100000 in
theorem f_331_618 : fe 331 618 = some (.aload_n 0, 1, 13, some .boolean) := fe_of pg_331 (by decide +kernel)
set_option maxRecDepth 100000 in
theorem f_331_619 : fe 331 619 = some (.iload_n 3, 1, 13, some .boolean) := fe_of pg_331 (by decide +kernel)
set_option maxRecDepth 100000 in
theorem f_331_620 : fe 331 620 = some (.iconst 1, 1, 13, some .boolean) := fe_of pg_331 (by decide +kernel)
set_option maxRecDepth 100000 in
theorem f_331_621 : fe 331 621 = some (.iadd, 1, 13, some .boolean) := fe_of pg_331 (by decide +kernel)
set_option maxRecDepth 100000 in
theorem f_331_622 : fe 331 622 = some (.iaload, 1, 13, some .boolean) := fe_of pg_331 (by decide +kernel)
set_option maxRecDepth 100000 in
theorem f_331_623 : fe 331 623 = some (.aload_n 0, 1, 13, some .boolean) := fe_of pg_331 (by decide +kernel)
set_option maxRecDepth 100000 in
theorem f_331_624 : fe 331 624 = some (.iload_n 3, 1, 13, some .boolean) := fe_of pg_331 (by decide +kernel)
set_option maxRecDepth 100000 in
theorem f_331_625 : fe 331 625 = some (.iconst 2, 1, 13, some .boolean) := fe_of pg_331 (by decide +kernel)
set_option maxRecDepth 100000 in
theorem f_331_626 : fe 331 626 = some (.iadd, 1, 13, some .boolean) := fe_of pg_331 (by decide +kernel)
set_option maxRecDepth 100000 in
theorem f_331_627 : fe 331 627 = some (.iaload, 1, 13, some .boolean) := fe_of pg_331 (by decide +kernel)
set_option maxRecDepth 100000 in
theorem f_331_628 : fe 331 628 = some (.aload_n 0, 1, 13, some .boolean) := fe_of pg_331 (by decide +kernel)
set_option maxRecDepth 100000 in
theorem f_331_629 : fe 331 629 = some (.iload_n 3, 1, 13, some .boolean) := fe_of pg_331 (by decide +kernel)
set_option maxRecDepth 100000 in
theorem f_331_630 : fe 331 630 = some (.iconst 3, 1, 13, some .boolean) := fe_of pg_331 (by decide +kernel)
set_option maxRecDepth 100000 in
theorem f_331_631 : fe 331 631 = some (.iadd, 1, 13, some .boolean) := fe_of pg_331 (by decide +kernel)
set_option maxRecDepth 100000 in
theorem f_331_632 : fe 331 632 = some (.iaload, 1, 13, some .boolean) := fe_of pg_331 (by decide +kernel)
set_option maxRecDepth 100000 in
theorem f_331_633 : fe 331 633 = some (.aload_n 0, 1, 13, some .boolean) := fe_of pg_331 (by decide +kernel)
set_option maxRecDepth 100000 in
theorem f_331_634 : fe 331 634 = some (.iload_n 3, 1, 13, some .boolean) := fe_of pg_331 (by decide +kernel)
set_option maxRecDepth 100000 in
theorem f_331_635 : fe 331 635 = some (.iconst 4, 1, 13, some .boolean) := fe_of pg_331 (by decide +kernel)
set_option maxRecDepth 100000 in
theorem f_331_636 : fe 331 636 = some (.iadd, 1, 13, some .boolean) := fe_of pg_331 (by decide +kernel)
set_option maxRecDepth 100000 in
theorem f_331_637 : fe 331 637 = some (.iaload, 1, 13, some .boolean) := fe_of pg_331 (by decide +kernel)
set_option maxRecDepth 100000 in
theorem f_331_638 : fe 331 638 = some (.invokevirtual 65, 3, 13, some .boolean) := fe_of pg_331 (by decide +kernel)
set_option maxRecDepth 100000 in
theorem f_331_641 : fe 331 641 = some (.if_icmp .eq 807, 3, 13, some .boolean) := fe_of pg_331 (by decide +kernel)
set_option maxRecDepth 100000 in
theorem f_331_644 : fe 331 644 = some (.iconst 0, 1, 13, some .boolean) := fe_of pg_331 (by decide +kernel)
set_option maxRecDepth 100000 in
theorem f_331_645 : fe 331 645 = some (.ireturn, 1, 13, some .boolean) := fe_of pg_331 (by decide +kernel)
set_option maxRecDepth 100000 in
theorem f_331_646 : fe 331 646 = some (.aload_n 1, 1, 13, some .boolean) := fe_of pg_331 (by decide +kernel)
set_option maxRecDepth 100000 in
theorem f_331_647 : fe 331 647 = some (.aload_n 0, 1, 13, some .boolean) := fe_of pg_331 (by decide +kernel)
set_option maxRecDepth 100000 in
theorem f_331_648 : fe 331 648 = some (.iload_n 3, 1, 13, some .boolean) := fe_of pg_331 (by decide +kernel)
set_option maxRecDepth 100000 in
theorem f_331_649 : fe 331 649 = some (.iconst 1, 1, 13, some .boolean) := fe_of pg_331 (by decide +kernel)
set_option maxRecDepth 100000 in
theorem f_331_650 : fe 331 650 = some (.iadd, 1, 13, some .boolean) := fe_of pg_331 (by decide +kernel)
set_option maxRecDepth 100000 in
theorem f_331_651 : fe 331 651 = some (.iaload, 1, 13, some .boolean) := fe_of pg_331 (by decide +kernel)
set_option maxRecDepth 100000 in
theorem f_331_652 : fe 331 652 = some (.aload_n 0, 1, 13, some .boolean) := fe_of pg_331 (by decide +kernel)
set_option maxRecDepth 100000 in
theorem f_331_653 : fe 331 653 = some (.iload_n 3, 1, 13, some .boolean) := fe_of pg_331 (by decide +kernel)
set_option maxRecDepth 100000 in
theorem f_331_654 : fe 331 654 = some (.iconst 2, 1, 13, some .boolean) := fe_of pg_331 (by decide +kernel)
set_option maxRecDepth 100000 in
theorem f_331_655 : fe 331 655 = some (.iadd, 1, 13, some .boolean) := fe_of pg_331 (by decide +kernel)
set_option maxRecDepth 100000 in
theorem f_331_656 : fe 331 656 = some (.iaload, 1, 13, some .boolean) := fe_of pg_331 (by decide +kernel)
set_option maxRecDepth 100000 in
theorem f_331_657 : fe 331 657 = some (.aload_n 0, 1, 13, some .boolean) := fe_of pg_331 (by decide +kernel)
set_option maxRecDepth 100000 in
theorem f_331_658 : fe 331 658 = some (.iload_n 3, 1, 13, some .boolean) := fe_of pg_331 (by decide +kernel)
set_option maxRecDepth 100000 in
theorem f_331_659 : fe 331 659 = some (.iconst 3, 1, 13, some .boolean) := fe_of pg_331 (by decide +kernel)
set_option maxRecDepth 100000 in
theorem f_331_660 : fe 331 660 = some (.iadd, 1, 13, some .boolean) := fe_of pg_331 (by decide +kernel)
set_option maxRecDepth 100000 in
theorem f_331_661 : fe 331 661 = some (.iaload, 1, 13, some .boolean) := fe_of pg_331 (by decide +kernel)
set_option maxRecDepth 100000 in
theorem f_331_662 : fe 331 662 = some (.ifCond .eq 7, 3, 13, some .boolean) := fe_of pg_331 (by decide +kernel)
set_option maxRecDepth 100000 in
theorem f_331_665 : fe 331 665 = some (.iconst 1, 1, 13, some .boolean) := fe_of pg_331 (by decide +kernel)
set_option maxRecDepth 100000 in
theorem f_331_666 : fe 331 666 = some (.goto 4, 3, 13, some .boolean) := fe_of pg_331 (by decide +kernel)
set_option maxRecDepth 100000 in
theorem f_331_669 : fe 331 669 = some (.iconst 0, 1, 13, some .boolean) := fe_of pg_331 (by decide +kernel)
set_option maxRecDepth 100000 in
theorem f_331_670 : fe 331 670 = some (.invokevirtual 66, 3, 13, some .boolean) := fe_of pg_331 (by decide +kernel)
set_option maxRecDepth 100000 in
theorem f_331_673 : fe 331 673 = some (.aload_n 2, 1, 13, some .boolean) := fe_of pg_331 (by decide +kernel)
set_option maxRecDepth 100000 in
theorem f_331_674 : fe 331 674 = some (.aload_n 0, 1, 13, some .boolean) := fe_of pg_331 (by decide +kernel)
set_option maxRecDepth 100000 in
theorem f_331_675 : fe 331 675 = some (.iload_n 3, 1, 13, some .boolean) := fe_of pg_331 (by decide +kernel)
set_option maxRecDepth 100000 in
theorem f_331_676 : fe 331 676 = some (.iconst 1, 1, 13, some .boolean) := fe_of pg_331 (by decide +kernel)
set_option maxRecDepth 100000 in
theorem f_331_677 : fe 331 677 = some (.iadd, 1, 13, some .boolean) := fe_of pg_331 (by decide +kernel)
set_option maxRecDepth 100000 in
theorem f_331_678 : fe 331 678 = some (.iaload, 1, 13, some .boolean) := fe_of pg_331 (by decide +kernel)
set_option maxRecDepth 100000 in
theorem f_331_679 : fe 331 679 = some (.aload_n 0, 1, 13, some .boolean) := fe_of pg_331 (by decide +kernel)
set_option maxRecDepth 100000 in
theorem f_331_680 : fe 331 680 = some (.iload_n 3, 1, 13, some .boolean) := fe_of pg_331 (by decide +kernel)
set_option maxRecDepth 100000 in
theorem f_331_681 : fe 331 681 = some (.iconst 2, 1, 13, some .boolean) := fe_of pg_331 (by decide +kernel)
set_option maxRecDepth 100000 in
theorem f_331_682 : fe 331 682 = some (.iadd, 1, 13, some .boolean) := fe_of pg_331 (by decide +kernel)
set_option maxRecDepth 100000 in
theorem f_331_683 : fe 331 683 = some (.iaload, 1, 13, some .boolean) := fe_of pg_331 (by decide +kernel)
set_option maxRecDepth 100000 in
theorem f_331_684 : fe 331 684 = some (.aload_n 0, 1, 13, some .boolean) := fe_of pg_331 (by decide +kernel)
set_option maxRecDepth 100000 in
theorem f_331_685 : fe 331 685 = some (.iload_n 3, 1, 13, some .boolean) := fe_of pg_331 (by decide +kernel)
set_option maxRecDepth 100000 in
theorem f_331_686 : fe 331 686 = some (.iconst 3, 1, 13, some .boolean) := fe_of pg_331 (by decide +kernel)
set_option maxRecDepth 100000 in
theorem f_331_687 : fe 331 687 = some (.iadd, 1, 13, some .boolean) := fe_of pg_331 (by decide +kernel)
set_option maxRecDepth 100000 in
theorem f_331_688 : fe 331 688 = some (.iaload, 1, 13, some .boolean) := fe_of pg_331 (by decide +kernel)
set_option maxRecDepth 100000 in
theorem f_331_689 : fe 331 689 = some (.ifCond .eq 7, 3, 13, some .boolean) := fe_of pg_331 (by decide +kernel)
set_option maxRecDepth 100000 in
theorem f_331_692 : fe 331 692 = some (.iconst 1, 1, 13, some .boolean) := fe_of pg_331 (by decide +kernel)
set_option maxRecDepth 100000 in
theorem f_331_693 : fe 331 693 = some (.goto 4, 3, 13, some .boolean) := fe_of pg_331 (by decide +kernel)
set_option maxRecDepth 100000 in
theorem f_331_696 : fe 331 696 = some (.iconst 0, 1, 13, some .boolean) := fe_of pg_331 (by decide +kernel)
set_option maxRecDepth 100000 in
theorem f_331_697 : fe 331 697 = some (.invokevirtual 70, 3, 13, some .boolean) := fe_of pg_331 (by decide +kernel)
set_option maxRecDepth 100000 in
theorem f_331_700 : fe 331 700 = some (.if_icmp .eq 748, 3, 13, some .boolean) := fe_of pg_331 (by decide +kernel)
set_option maxRecDepth 100000 in
theorem f_331_703 : fe 331 703 = some (.iconst 0, 1, 13, some .boolean) := fe_of pg_331 (by decide +kernel)
set_option maxRecDepth 100000 in
theorem f_331_704 : fe 331 704 = some (.ireturn, 1, 13, some .boolean) := fe_of pg_331 (by decide +kernel)
set_option maxRecDepth 100000 in
theorem f_331_705 : fe 331 705 = some (.aload_n 1, 1, 13, some .boolean) := fe_of pg_331 (by decide +kernel)
set_option maxRecDepth 100000 in
theorem f_331_706 : fe 331 706 = some (.aload_n 0, 1, 13, some .boolean) := fe_of pg_331 (by decide +kernel)
set_option maxRecDepth 100000 in
theorem f_331_707 : fe 331 707 = some (.iload_n 3, 1, 13, some .boolean) := fe_of pg_331 (by decide +kernel)
set_option maxRecDepth 100000 in
theorem f_331_708 : fe 331 708 = some (.iconst 1, 1, 13, some .boolean) := fe_of pg_331 (by decide +kernel)
set_option maxRecDepth 100000 in
theorem f_331_709 : fe 331 709 = some (.iadd, 1, 13, some .boolean) := fe_of pg_331 (by decide +kernel)
set_option maxRecDepth 100000 in
theorem f_331_710 : fe 331 710 = some (.iaload, 1, 13, some .boolean) := fe_of pg_331 (by decide +kernel)
set_option maxRecDepth 100000 in
theorem f_331_711 : fe 331 711 = some (.aload_n 0, 1, 13, some .boolean) := fe_of pg_331 (by decide +kernel)
set_option maxRecDepth 100000 in
theorem f_331_712 : fe 331 712 = some (.iload_n 3, 1, 13, some .boolean) := fe_of pg_331 (by decide +kernel)
set_option maxRecDepth 100000 in
theorem f_331_713 : fe 331 713 = some (.iconst 2, 1, 13, some .boolean) := fe_of pg_331 (by decide +kernel)
set_option maxRecDepth 100000 in
theorem f_331_714 : fe 331 714 = some (.iadd, 1, 13, some .boolean) := fe_of pg_331 (by decide +kernel)
set_option maxRecDepth 100000 in
theorem f_331_715 : fe 331 715 = some (.iaload, 1, 13, some .boolean) := fe_of pg_331 (by decide +kernel)
set_option maxRecDepth 100000 in
theorem f_331_716 : fe 331 716 = some (.invokevirtual 71, 3, 13, some .boolean) := fe_of pg_331 (by decide +kernel)
set_option maxRecDepth 100000 in
theorem f_331_719 : fe 331 719 = some (.aload_n 2, 1, 13, some .boolean) := fe_of pg_331 (by decide +kernel)
set_option maxRecDepth 100000 in
theorem f_331_720 : fe 331 720 = some (.aload_n 0, 1, 13, some .boolean) := fe_of pg_331 (by decide +kernel)
set_option maxRecDepth 100000 in
theorem f_331_721 : fe 331 721 = some (.iload_n 3, 1, 13, some .boolean) := fe_of pg_331 (by decide +kernel)
set_option maxRecDepth 100000 in
theorem f_331_722 : fe 331 722 = some (.iconst 1, 1, 13, some .boolean) := fe_of pg_331 (by decide +kernel)
set_option maxRecDepth 100000 in
theorem f_331_723 : fe 331 723 = some (.iadd, 1, 13, some .boolean) := fe_of pg_331 (by decide +kernel)
set_option maxRecDepth 100000 in
theorem f_331_724 : fe 331 724 = some (.iaload, 1, 13, some .boolean) := fe_of pg_331 (by decide +kernel)
set_option maxRecDepth 100000 in
theorem f_331_725 : fe 331 725 = some (.aload_n 0, 1, 13, some .boolean) := fe_of pg_331 (by decide +kernel)
set_option maxRecDepth 100000 in
theorem f_331_726 : fe 331 726 = some (.iload_n 3, 1, 13, some .boolean) := fe_of pg_331 (by decide +kernel)
set_option maxRecDepth 100000 in
theorem f_331_727 : fe 331 727 = some (.iconst 2, 1, 13, some .boolean) := fe_of pg_331 (by decide +kernel)
set_option maxRecDepth 100000 in
theorem f_331_728 : fe 331 728 = some (.iadd, 1, 13, some .boolean) := fe_of pg_331 (by decide +kernel)
set_option maxRecDepth 100000 in
theorem f_331_729 : fe 331 729 = some (.iaload, 1, 13, some .boolean) := fe_of pg_331 (by decide +kernel)
set_option maxRecDepth 100000 in
theorem f_331_730 : fe 331 730 = some (.invokevirtual 74, 3, 13, some .boolean) := fe_of pg_331 (by decide +kernel)
set_option maxRecDepth 100000 in
theorem f_331_733 : fe 331 733 = some (.if_icmp .eq 715, 3, 13, some .boolean) := fe_of pg_331 (by decide +kernel)
set_option maxRecDepth 100000 in
theorem f_331_736 : fe 331 736 = some (.iconst 0, 1, 13, some .boolean) := fe_of pg_331 (by decide +kernel)
set_option maxRecDepth 100000 in
theorem f_331_737 : fe 331 737 = some (.ireturn, 1, 13, some .boolean) := fe_of pg_331 (by decide +kernel)
set_option maxRecDepth 100000 in
theorem f_331_738 : fe 331 738 = some (.aload_n 1, 1, 13, some .boolean) := fe_of pg_331 (by decide +kernel)
set_option maxRecDepth 100000 in
theorem f_331_739 : fe 331 739 = some (.aload_n 0, 1, 13, some .boolean) := fe_of pg_331 (by decide +kernel)
set_option maxRecDepth 100000 in
theorem f_331_740 : fe 331 740 = some (.iload_n 3, 1, 13, some .boolean) := fe_of pg_331 (by decide +kernel)
set_option maxRecDepth 100000 in
theorem f_331_741 : fe 331 741 = some (.iconst 1, 1, 13, some .boolean) := fe_of pg_331 (by decide +kernel)
set_option maxRecDepth 100000 in
theorem f_331_742 : fe 331 742 = some (.iadd, 1, 13, some .boolean) := fe_of pg_331 (by decide +kernel)
set_option maxRecDepth 100000 in
theorem f_331_743 : fe 331 743 = some (.iaload, 1, 13, some .boolean) := fe_of pg_331 (by decide +kernel)
set_option maxRecDepth 100000 in
theorem f_331_744 : fe 331 744 = some (.aload_n 0, 1, 13, some .boolean) := fe_of pg_331 (by decide +kernel)
set_option maxRecDepth 100000 in
theorem f_331_745 : fe 331 745 = some (.iload_n 3, 1, 13, some .boolean) := fe_of pg_331 (by decide +kernel)
set_option maxRecDepth 100000 in
theorem f_331_746 : fe 331 746 = some (.iconst 2, 1, 13, some .boolean) := fe_of pg_331 (by decide +kernel)
set_option maxRecDepth 100000 in
theorem f_331_747 : fe 331 747 = some (.iadd, 1, 13, some .boolean) := fe_of pg_331 (by decide +kernel)
set_option maxRecDepth 100000 in
theorem f_331_748 : fe 331 748 = some (.iaload, 1, 13, some .boolean) := fe_of pg_331 (by decide +kernel)
set_option maxRecDepth 100000 in
theorem f_331_749 : fe 331 749 = some (.invokevirtual 75, 3, 13, some .boolean) := fe_of pg_331 (by decide +kernel)
set_option maxRecDepth 100000 in
theorem f_331_752 : fe 331 752 = some (.aload_n 2, 1, 13, some .boolean) := fe_of pg_331 (by decide +kernel)
set_option maxRecDepth 100000 in
theorem f_331_753 : fe 331 753 = some (.aload_n 0, 1, 13, some .boolean) := fe_of pg_331 (by decide +kernel)
set_option maxRecDepth 100000 in
theorem f_331_754 : fe 331 754 = some (.iload_n 3, 1, 13, some .boolean) := fe_of pg_331 (by decide +kernel)
set_option maxRecDepth 100000 in
theorem f_331_755 : fe 331 755 = some (.iconst 1, 1, 13, some .boolean) := fe_of pg_331 (by decide +kernel)
set_option maxRecDepth 100000 in
theorem f_331_756 : fe 331 756 = some (.iadd, 1, 13, some .boolean) := fe_of pg_331 (by decide +kernel)
set_option maxRecDepth 100000 in
theorem f_331_757 : fe 331 757 = some (.iaload, 1, 13, some .boolean) := fe_of pg_331 (by decide +kernel)
set_option maxRecDepth 100000 in
theorem f_331_758 : fe 331 758 = some (.aload_n 0, 1, 13, some .boolean) := fe_of pg_331 (by decide +kernel)
set_option maxRecDepth 100000 in
theorem f_331_759 : fe 331 759 = some (.iload_n 3, 1, 13, some .boolean) := fe_of pg_331 (by decide +kernel)
set_option maxRecDepth 100000 in
theorem f_331_760 : fe 331 760 = some (.iconst 2, 1, 13, some .boolean) := fe_of pg_331 (by decide +kernel)
set_option maxRecDepth 100000 in
theorem f_331_761 : fe 331 761 = some (.iadd, 1, 13, some .boolean) := fe_of pg_331 (by decide +kernel)
set_option maxRecDepth 100000 in
theorem f_331_762 : fe 331 762 = some (.iaload, 1, 13, some .boolean) := fe_of pg_331 (by decide +kernel)
set_option maxRecDepth 100000 in
theorem f_331_763 : fe 331 763 = some (.invokevirtual 78, 3, 13, some .boolean) := fe_of pg_331 (by decide +kernel)
set_option maxRecDepth 100000 in
theorem f_331_766 : fe 331 766 = some (.if_icmp .eq 682, 3, 13, some .boolean) := fe_of pg_331 (by decide +kernel)
set_option maxRecDepth 100000 in
theorem f_331_769 : fe 331 769 = some (.iconst 0, 1, 13, some .boolean) := fe_of pg_331 (by decide +kernel)
set_option maxRecDepth 100000 in
theorem f_331_770 : fe 331 770 = some (.ireturn, 1, 13, some .boolean) := fe_of pg_331 (by decide +kernel)
set_option maxRecDepth 100000 in
theorem f_331_771 : fe 331 771 = some (.aload_n 1, 1, 13, some .boolean) := fe_of pg_331 (by decide +kernel)
set_option maxRecDepth 100000 in
theorem f_331_772 : fe 331 772 = some (.aload_n 0, 1, 13, some .boolean) := fe_of pg_331 (by decide +kernel)
set_option maxRecDepth 100000 in
theorem f_331_773 : fe 331 773 = some (.iload_n 3, 1, 13, some .boolean) := fe_of pg_331 (by decide +kernel)
set_option maxRecDepth 100000 in
theorem f_331_774 : fe 331 774 = some (.iconst 1, 1, 13, some .boolean) := fe_of pg_331 (by decide +kernel)
set_option maxRecDepth 100000 in
theorem f_331_775 : fe 331 775 = some (.iadd, 1, 13, some .boolean) := fe_of pg_331 (by decide +kernel)
set_option maxRecDepth 100000 in
theorem f_331_776 : fe 331 776 = some (.iaload, 1, 13, some .boolean) := fe_of pg_331 (by decide +kernel)
set_option maxRecDepth 100000 in
theorem f_331_777 : fe 331 777 = some (.aload_n 0, 1, 13, some .boolean) := fe_of pg_331 (by decide +kernel)
set_option maxRecDepth 100000 in
theorem f_331_778 : fe 331 778 = some (.iload_n 3, 1, 13, some .boolean) := fe_of pg_331 (by decide +kernel)
set_option maxRecDepth 100000 in
theorem f_331_779 : fe 331 779 = some (.iconst 2, 1, 13, some .boolean) := fe_of pg_331 (by decide +kernel)
set_option maxRecDepth 100000 in
theorem f_331_780 : fe 331 780 = some (.iadd, 1, 13, some .boolean) := fe_of pg_331 (by decide +kernel)
set_option maxRecDepth 100000 in
theorem f_331_781 : fe 331 781 = some (.iaload, 1, 13, some .boolean) := fe_of pg_331 (by decide +kernel)
set_option maxRecDepth 100000 in
theorem f_331_782 : fe 331 782 = some (.aload_n 0, 1, 13, some .boolean) := fe_of pg_331 (by decide +kernel)
set_option maxRecDepth 100000 in
theorem f_331_783 : fe 331 783 = some (.iload_n 3, 1, 13, some .boolean) := fe_of pg_331 (by decide +kernel)
set_option maxRecDepth 100000 in
theorem f_331_784 : fe 331 784 = some (.iconst 3, 1, 13, some .boolean) := fe_of pg_331 (by decide +kernel)
set_option maxRecDepth 100000 in
theorem f_331_785 : fe 331 785 = some (.iadd, 1, 13, some .boolean) := fe_of pg_331 (by decide +kernel)
set_option maxRecDepth 100000 in
theorem f_331_786 : fe 331 786 = some (.iaload, 1, 13, some .boolean) := fe_of pg_331 (by decide +kernel)
set_option maxRecDepth 100000 in
theorem f_331_787 : fe 331 787 = some (.invokevirtual 79, 3, 13, some .boolean) := fe_of pg_331 (by decide +kernel)
set_option maxRecDepth 100000 in
theorem f_331_790 : fe 331 790 = some (.aload_n 2, 1, 13, some .boolean) := fe_of pg_331 (by decide +kernel)
set_option maxRecDepth 100000 in
theorem f_331_791 : fe 331 791 = some (.aload_n 0, 1, 13, some .boolean) := fe_of pg_331 (by decide +kernel)
set_option maxRecDepth 100000 in
theorem f_331_792 : fe 331 792 = some (.iload_n 3, 1, 13, some .boolean) := fe_of pg_331 (by decide +kernel)
set_option maxRecDepth 100000 in
theorem f_331_793 : fe 331 793 = some (.iconst 1, 1, 13, some .boolean) := fe_of pg_331 (by decide +kernel)
