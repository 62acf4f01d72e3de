theorem dL_lots_365 : decode cL_lots 365 = .ok (.iconst 4, 1) := by decide +kernel
theorem dL_lots_366 : decode cL_lots 366 = .ok (.iload 5, 2) := by decide +kernel
theorem dL_lots_368 : decode cL_lots 368 = .ok (.imul, 1) := by decide +kernel
theorem dL_lots_369 : decode cL_lots 369 = .ok (.iconst 3, 1) := by decide +kernel
theorem dL_lots_370 : decode cL_lots 370 = .ok (.iadd, 1) := by decide +kernel
theorem dL_lots_371 : decode cL_lots 371 = .ok (.aload_n 1, 1) := by decide +kernel
theorem dL_lots_372 : decode cL_lots 372 = .ok (.iconst 0, 1) := by decide +kernel
theorem dL_lots_373 : decode cL_lots 373 = .ok (.iaload, 1) := by decide +kernel
theorem dL_lots_374 : decode cL_lots 374 = .ok (.iastore, 1) := by decide +kernel
theorem dL_lots_375 : decode cL_lots 375 = .ok (.aload_n 0, 1) := by decide +kernel
theorem dL_lots_376 : decode cL_lots 376 = .ok (.iload 6, 2) := by decide +kernel
theorem dL_lots_378 : decode cL_lots 378 = .ok (.invokevirtual 45, 3) := by decide +kernel
theorem dL_lots_381 : decode cL_lots 381 = .ok (.aload_n 2, 1) := by decide +kernel
theorem dL_lots_382 : decode cL_lots 382 = .ok (.iconst 4, 1) := by decide +kernel
theorem dL_lots_383 : decode cL_lots 383 = .ok (.iload 5, 2) := by decide +kernel
theorem dL_lots_385 : decode cL_lots 385 = .ok (.imul, 1) := by decide +kernel
theorem dL_lots_386 : decode cL_lots 386 = .ok (.iconst 2, 1) := by decide +kernel
theorem dL_lots_387 : decode cL_lots 387 = .ok (.iadd, 1) := by decide +kernel
theorem dL_lots_388 : decode cL_lots 388 = .ok (.iaload, 1) := by decide +kernel
theorem dL_lots_389 : decode cL_lots 389 = .ok (.if_icmp .ne 7, 3) := by decide +kernel
theorem dL_lots_392 : decode cL_lots 392 = .ok (.iconst 1, 1) := by decide +kernel
theorem dL_lots_393 : decode cL_lots 393 = .ok (.goto 4, 3) := by decide +kernel
theorem dL_lots_396 : decode cL_lots 396 = .ok (.iconst 0, 1) := by decide +kernel
theorem dL_lots_397 : decode cL_lots 397 = .ok (.ireturn, 1) := by decide +kernel
theorem dL_lots_398 : decode cL_lots 398 = .ok (.iload 4, 2) := by decide +kernel
theorem dL_lots_400 : decode cL_lots 400 = .ok (.bipush 12, 2) := by decide +kernel
theorem dL_lots_402 : decode cL_lots 402 = .ok (.idiv, 1) := by decide +kernel
theorem dL_lots_403 : decode cL_lots 403 = .ok (.aload_n 1, 1) := by decide +kernel
theorem dL_lots_404 : decode cL_lots 404 = .ok (.bipush 6, 2) := by decide +kernel
theorem dL_lots_406 : decode cL_lots 406 = .ok (.iaload, 1) := by decide +kernel
theorem dL_lots_407 : decode cL_lots 407 = .ok (.irem, 1) := by decide +kernel
theorem dL_lots_408 : decode cL_lots 408 = .ok (.istore 7, 2) := by decide +kernel
theorem dL_lots_410 : decode cL_lots 410 = .ok (.aload_n 2, 1) := by decide +kernel
theorem dL_lots_411 : decode cL_lots 411 = .ok (.iconst 4, 1) := by decide +kernel
theorem dL_lots_412 : decode cL_lots 412 = .ok (.iload 7, 2) := by decide +kernel
theorem dL_lots_414 : decode cL_lots 414 = .ok (.imul, 1) := by decide +kernel
theorem dL_lots_415 : decode cL_lots 415 = .ok (.iaload, 1) := by decide +kernel
theorem dL_lots_416 : decode cL_lots 416 = .ok (.istore 8, 2) := by decide +kernel
theorem dL_lots_418 : decode cL_lots 418 = .ok (.iconst 1, 1) := by decide +kernel
theorem dL_lots_419 : decode cL_lots 419 = .ok (.iload 4, 2) := by decide +kernel
theorem dL_lots_421 : decode cL_lots 421 = .ok (.sipush 144, 3) := by decide +kernel
theorem dL_lots_424 : decode cL_lots 424 = .ok (.idiv, 1) := by decide +kernel
theorem dL_lots_425 : decode cL_lots 425 = .ok (.aload_n 2, 1) := by decide +kernel
theorem dL_lots_426 : decode cL_lots 426 = .ok (.iconst 4, 1) := by decide +kernel
theorem dL_lots_427 : decode cL_lots 427 = .ok (.iload 5, 2) := by decide +kernel
theorem dL_lots_429 : decode cL_lots 429 = .ok (.imul, 1) := by decide +kernel
theorem dL_lots_430 : decode cL_lots 430 = .ok (.iconst 1, 1) := by decide +kernel
theorem dL_lots_431 : decode cL_lots 431 = .ok (.iadd, 1) := by decide +kernel
theorem dL_lots_432 : decode cL_lots 432 = .ok (.iaload, 1) := by decide +kernel
theorem dL_lots_433 : decode cL_lots 433 = .ok (.iload 4, 2) := by decide +kernel
theorem dL_lots_435 : decode cL_lots 435 = .ok (.iconst 5, 1) := by decide +kernel
theorem dL_lots_436 : decode cL_lots 436 = .ok (.irem, 1) := by decide +kernel
theorem dL_lots_437 : decode cL_lots 437 = .ok (.ifCond .ne 7, 3) := by decide +kernel
theorem dL_lots_440 : decode cL_lots 440 = .ok (.iconst 1, 1) := by decide +kernel
theorem dL_lots_441 : decode cL_lots 441 = .ok (.goto 4, 3) := by decide +kernel
theorem dL_lots_444 : decode cL_lots 444 = .ok (.iconst 0, 1) := by decide +kernel
theorem dL_lots_445 : decode cL_lots 445 = .ok (.iadd, 1) := by decide +kernel
theorem dL_lots_446 : decode cL_lots 446 = .ok (.irem, 1) := by decide +kernel
theorem dL_lots_447 : decode cL_lots 447 = .ok (.iadd, 1) := by decide +kernel
theorem dL_lots_448 : decode cL_lots 448 = .ok (.istore 9, 2) := by decide +kernel
theorem dL_lots_450 : decode cL_lots 450 = .ok (.iconst 1, 1) := by decide +kernel
theorem dL_lots_451 : decode cL_lots 451 = .ok (.iload 4, 2) := by decide +kernel
theorem dL_lots_453 : decode cL_lots 453 = .ok (.bipush 31, 2) := by decide +kernel
theorem dL_lots_455 : decode cL_lots 455 = .ok (.idiv, 1) := by decide +kernel
theorem dL_lots_456 : decode cL_lots 456 = .ok (.aload_n 2, 1) := by decide +kernel
theorem dL_lots_457 : decode cL_lots 457 = .ok (.iconst 4, 1) := by decide +kernel
theorem dL_lots_458 : decode cL_lots 458 = .ok (.iload 7, 2) := by decide +kernel
theorem dL_lots_460 : decode cL_lots 460 = .ok (.imul, 1) := by decide +kernel
theorem dL_lots_461 : decode cL_lots 461 = .ok (.iconst 1, 1) := by decide +kernel
theorem dL_lots_462 : decode cL_lots 462 = .ok (.iadd, 1) := by decide +kernel
theorem dL_lots_463 : decode cL_lots 463 = .ok (.iaload, 1) := by decide +kernel
theorem dL_lots_464 : decode cL_lots 464 = .ok (.iload 4, 2) := by decide +kernel
theorem dL_lots_466 : decode cL_lots 466 = .ok (.bipush 7, 2) := by decide +kernel
theorem dL_lots_468 : decode cL_lots 468 = .ok (.irem, 1) := by decide +kernel
theorem dL_lots_469 : decode cL_lots 469 = .ok (.ifCond .ne 7, 3) := by decide +kernel
theorem dL_lots_472 : decode cL_lots 472 = .ok (.iconst 1, 1) := by decide +kernel
theorem dL_lots_473 : decode cL_lots 473 = .ok (.goto 4, 3) := by decide +kernel
theorem dL_lots_476 : decode cL_lots 476 = .ok (.iconst 0, 1) := by decide +kernel
theorem dL_lots_477 : decode cL_lots 477 = .ok (.iadd, 1) := by decide +kernel
theorem dL_lots_478 : decode cL_lots 478 = .ok (.irem, 1) := by decide +kernel
theorem dL_lots_479 : decode cL_lots 479 = .ok (.iadd, 1) := by decide +kernel
theorem dL_lots_480 : decode cL_lots 480 = .ok (.istore 10, 2) := by decide +kernel
theorem dL_lots_482 : decode cL_lots 482 = .ok (.iload 5, 2) := by decide +kernel
theorem dL_lots_484 : decode cL_lots 484 = .ok (.iload 7, 2) := by decide +kernel
theorem dL_lots_486 : decode cL_lots 486 = .ok (.if_icmp .ne 26, 3) := by decide +kernel
theorem dL_lots_489 : decode cL_lots 489 = .ok (.aload_n 0, 1) := by decide +kernel
theorem dL_lots_490 : decode cL_lots 490 = .ok (.iload 6, 2) := by decide +kernel
theorem dL_lots_492 : decode cL_lots 492 = .ok (.iload 9, 2) := by decide +kernel
theorem dL_lots_494 : decode cL_lots 494 = .ok (.iload 8, 2) := by decide +kernel
theorem dL_lots_496 : decode cL_lots 496 = .ok (.iload 10, 2) := by decide +kernel
theorem dL_lots_498 : decode cL_lots 498 = .ok (.invokevirtual 47, 3) := by decide +kernel
theorem dL_lots_501 : decode cL_lots 501 = .ok (.ldc 44, 2) := by decide +kernel
theorem dL_lots_503 : decode cL_lots 503 = .ok (.if_icmp .ne 7, 3) := by decide +kernel
theorem dL_lots_506 : decode cL_lots 506 = .ok (.iconst 1, 1) := by decide +kernel
theorem dL_lots_507 : decode cL_lots 507 = .ok (.goto 4, 3) := by decide +kernel
theorem dL_lots_510 : decode cL_lots 510 = .ok (.iconst 0, 1) := by decide +kernel
theorem dL_lots_511 : decode cL_lots 511 = .ok (.ireturn, 1) := by decide +kernel
theorem dL_lots_512 : decode cL_lots 512 = .ok (.iload 9, 2) := by decide +kernel
theorem dL_lots_514 : decode cL_lots 514 = .ok (.aload_n 2, 1) := by decide +kernel
theorem dL_lots_515 : decode cL_lots 515 = .ok (.iconst 4, 1) := by decide +kernel
theorem dL_lots_516 : decode cL_lots 516 = .ok (.iload 5, 2) := by decide +kernel
theorem dL_lots_518 : decode cL_lots 518 = .ok (.imul, 1) := by decide +kernel
theorem dL_lots_519 : decode cL_lots 519 = .ok (.iconst 1, 1) := by decide +kernel
theorem dL_lots_520 : decode cL_lots 520 = .ok (.iadd, 1) := by decide +kernel
theorem dL_lots_521 : decode cL_lots 521 = .ok (.iaload, 1) := by decide +kernel
theorem dL_lots_522 : decode cL_lots 522 = .ok (.if_icmp .gt 16, 3) := by decide +kernel
theorem dL_lots_525 : decode cL_lots 525 = .ok (.iload 10, 2) := by decide +kernel
theorem dL_lots_527 : decode cL_lots 527 = .ok (.aload_n 2, 1) := by decide +kernel
theorem dL_lots_528 : decode cL_lots 528 = .ok (.iconst 4, 1) := by decide +kernel
theorem dL_lots_529 : decode cL_lots 529 = .ok (.iload 7, 2) := by decide +kernel
theorem dL_lots_531 : decode cL_lots 531 = .ok (.imul, 1) := by decide +kernel
theorem dL_lots_532 : decode cL_lots 532 = .ok (.iconst 1, 1) := by decide +kernel
theorem dL_lots_533 : decode cL_lots 533 = .ok (.iadd, 1) := by decide +kernel
theorem dL_lots_534 : decode cL_lots 534 = .ok (.iaload, 1) := by decide +kernel
theorem dL_lots_535 : decode cL_lots 535 = .ok (.if_icmp .le 26, 3) := by decide +kernel
theorem dL_lots_538 : decode cL_lots 538 = .ok (.aload_n 0, 1) := by decide +kernel
theorem dL_lots_539 : decode cL_lots 539 = .ok (.iload 6, 2) := by decide +kernel
theorem dL_lots_541 : decode cL_lots 541 = .ok (.iload 9, 2) := by decide +kernel
theorem dL_lots_543 : decode cL_lots 543 = .ok (.iload 8, 2) := by decide +kernel
theorem dL_lots_545 : decode cL_lots 545 = .ok (.iload 10, 2) := by decide +kernel
theorem dL_lots_547 : decode cL_lots 547 = .ok (.invokevirtual 47, 3) := by decide +kernel
theorem dL_lots_550 : decode cL_lots 550 = .ok (.ldc 51, 2) := by decide +kernel
theorem dL_lots_552 : decode cL_lots 552 = .ok (.if_icmp .ne 7, 3) := by decide +kernel
theorem dL_lots_555 : decode cL_lots 555 = .ok (.iconst 1, 1) := by decide +kernel
theorem dL_lots_556 : decode cL_lots 556 = .ok (.goto 4, 3) := by decide +kernel
theorem dL_lots_559 : decode cL_lots 559 = .ok (.iconst 0, 1) := by decide +kernel
theorem dL_lots_560 : decode cL_lots 560 = .ok (.ireturn, 1) := by decide +kernel
theorem dL_lots_561 : decode cL_lots 561 = .ok (.aload_n 1, 1) := by decide +kernel
theorem dL_lots_562 : decode cL_lots 562 = .ok (.bipush 6, 2) := by decide +kernel
theorem dL_lots_564 : decode cL_lots 564 = .ok (.iaload, 1) := by decide +kernel
theorem dL_lots_565 : decode cL_lots 565 = .ok (.iload 9, 2) := by decide +kernel
theorem dL_lots_567 : decode cL_lots 567 = .ok (.aload_n 2, 1) := by decide +kernel
theorem dL_lots_568 : decode cL_lots 568 = .ok (.iconst 4, 1) := by decide +kernel
theorem dL_lots_569 : decode cL_lots 569 = .ok (.iload 5, 2) := by decide +kernel
theorem dL_lots_571 : decode cL_lots 571 = .ok (.imul, 1) := by decide +kernel
theorem dL_lots_572 : decode cL_lots 572 = .ok (.iconst 1, 1) := by decide +kernel
theorem dL_lots_573 : decode cL_lots 573 = .ok (.iadd, 1) := by decide +kernel
theorem dL_lots_574 : decode cL_lots 574 = .ok (.iaload, 1) := by decide +kernel
theorem dL_lots_575 : decode cL_lots 575 = .ok (.if_icmp .ne 7, 3) := by decide +kernel
theorem dL_lots_578 : decode cL_lots 578 = .ok (.iconst 0, 1) := by decide +kernel
theorem dL_lots_579 : decode cL_lots 579 = .ok (.goto 4, 3) := by decide +kernel
theorem dL_lots_582 : decode cL_lots 582 = .ok (.iconst 1, 1) := by decide +kernel
theorem dL_lots_583 : decode cL_lots 583 = .ok (.iadd, 1) := by decide +kernel
theorem dL_lots_584 : decode cL_lots 584 = .ok (.iload 10, 2) := by decide +kernel
theorem dL_lots_586 : decode cL_lots 586 = .ok (.aload_n 2, 1) := by decide +kernel
theorem dL_lots_587 : decode cL_lots 587 = .ok (.iconst 4, 1) := by decide +kernel
theorem dL_lots_588 : decode cL_lots 588 = .ok (.iload 7, 2) := by decide +kernel
theorem dL_lots_590 : decode cL_lots 590 = .ok (.imul, 1) := by decide +kernel
theorem dL_lots_591 : decode cL_lots 591 = .ok (.iconst 1, 1) := by decide +kernel
theorem dL_lots_592 : decode cL_lots 592 = .ok (.iadd, 1) := by decide +kernel
theorem dL_lots_593 : decode cL_lots 593 = .ok (.iaload, 1) := by decide +kernel
theorem dL_lots_594 : decode cL_lots 594 = .ok (.if_icmp .ne 7, 3) := by decide +kernel
theorem dL_lots_597 : decode cL_lots 597 = .ok (.iconst 1, 1) := by decide +kernel
theorem dL_lots_598 : decode cL_lots 598 = .ok (.goto 4, 3) := by decide +kernel
theorem dL_lots_601 : decode cL_lots 601 = .ok (.iconst 0, 1) := by decide +kernel
theorem dL_lots_602 : decode cL_lots 602 = .ok (.isub, 1) := by decide +kernel
theorem dL_lots_603 : decode cL_lots 603 = .ok (.istore 11, 2) := by decide +kernel
theorem dL_lots_605 : decode cL_lots 605 = .ok (.iload 11, 2) := by decide +kernel
theorem dL_lots_607 : decode cL_lots 607 = .ok (.bipush 12, 2) := by decide +kernel
theorem dL_lots_609 : decode cL_lots 609 = .ok (.if_icmp .gt 14, 3) := by decide +kernel
theorem dL_lots_612 : decode cL_lots 612 = .ok (.iload 9, 2) := by decide +kernel
theorem dL_lots_614 : decode cL_lots 614 = .ok (.iload 10, 2) := by decide +kernel
theorem dL_lots_616 : decode cL_lots 616 = .ok (.iadd, 1) := by decide +kernel
theorem dL_lots_617 : decode cL_lots 617 = .ok (.sipush 9999, 3) := by decide +kernel
theorem dL_lots_620 : decode cL_lots 620 = .ok (.if_icmp .le 26, 3) := by decide +kernel
theorem dL_lots_623 : decode cL_lots 623 = .ok (.aload_n 0, 1) := by decide +kernel
theorem dL_lots_624 : decode cL_lots 624 = .ok (.iload 6, 2) := by decide +kernel
theorem dL_lots_626 : decode cL_lots 626 = .ok (.iload 9, 2) := by decide +kernel
theorem dL_lots_628 : decode cL_lots 628 = .ok (.iload 8, 2) := by decide +kernel
theorem dL_lots_630 : decode cL_lots 630 = .ok (.iload 10, 2) := by decide +kernel
theorem dL_lots_632 : decode cL_lots 632 = .ok (.invokevirtual 47, 3) := by decide +kernel
theorem dL_lots_635 : decode cL_lots 635 = .ok (.ldc 37, 2) := by decide +kernel
theorem dL_lots_637 : decode cL_lots 637 = .ok (.if_icmp .ne 7, 3) := by decide +kernel
theorem dL_lots_640 : decode cL_lots 640 = .ok (.iconst 1, 1) := by decide +kernel
theorem dL_lots_641 : decode cL_lots 641 = .ok (.goto 4, 3) := by decide +kernel
theorem dL_lots_644 : decode cL_lots 644 = .ok (.iconst 0, 1) := by decide +kernel
theorem dL_lots_645 : decode cL_lots 645 = .ok (.ireturn, 1) := by decide +kernel
theorem dL_lots_646 : decode cL_lots 646 = .ok (.iload 9, 2) := by decide +kernel
theorem dL_lots_648 : decode cL_lots 648 = .ok (.aload_n 2, 1) := by decide +kernel
theorem dL_lots_649 : decode cL_lots 649 = .ok (.iload 5, 2) := by decide +kernel
theorem dL_lots_651 : decode cL_lots 651 = .ok (.aload_n 1, 1) := by decide +kernel
theorem dL_lots_652 : decode cL_lots 652 = .ok (.iconst 0, 1) := by decide +kernel
theorem dL_lots_653 : decode cL_lots 653 = .ok (.iaload, 1) := by decide +kernel
theorem dL_lots_654 : decode cL_lots 654 = .ok (.invokestatic 9, 3) := by decide +kernel
theorem dL_lots_657 : decode cL_lots 657 = .ok (.imul, 1) := by decide +kernel
theorem dL_lots_658 : decode cL_lots 658 = .ok (.iload 10, 2) := by decide +kernel
theorem dL_lots_660 : decode cL_lots 660 = .ok (.aload_n 2, 1) := by decide +kernel
theorem dL_lots_661 : decode cL_lots 661 = .ok (.iload 7, 2) := by decide +kernel
theorem dL_lots_663 : decode cL_lots 663 = .ok (.aload_n 1, 1) := by decide +kernel
theorem dL_lots_664 : decode cL_lots 664 = .ok (.iconst 0, 1) := by decide +kernel
theorem dL_lots_665 : decode cL_lots 665 = .ok (.iaload, 1) := by decide +kernel
theorem dL_lots_666 : decode cL_lots 666 = .ok (.invokestatic 9, 3) := by decide +kernel
theorem dL_lots_669 : decode cL_lots 669 = .ok (.imul, 1) := by decide +kernel
theorem dL_lots_670 : decode cL_lots 670 = .ok (.iadd, 1) := by decide +kernel
theorem dL_lots_671 : decode cL_lots 671 = .ok (.istore 12, 2) := by decide +kernel
theorem dL_lots_673 : decode cL_lots 673 = .ok (.aload_n 1, 1) := by decide +kernel
theorem dL_lots_674 : decode cL_lots 674 = .ok (.aload_n 2, 1) := by decide +kernel
theorem dL_lots_675 : decode cL_lots 675 = .ok (.iload 6, 2) := by decide +kernel
theorem dL_lots_677 : decode cL_lots 677 = .ok (.iload 9, 2) := by decide +kernel
theorem dL_lots_679 : decode cL_lots 679 = .ok (.invokestatic 52, 3) := by decide +kernel
theorem dL_lots_682 : decode cL_lots 682 = .ok (.aload_n 1, 1) := by decide +kernel
theorem dL_lots_683 : decode cL_lots 683 = .ok (.aload_n 2, 1) := by decide +kernel
theorem dL_lots_684 : decode cL_lots 684 = .ok (.iload 8, 2) := by decide +kernel
theorem dL_lots_686 : decode cL_lots 686 = .ok (.iload 10, 2) := by decide +kernel
theorem dL_lots_688 : decode cL_lots 688 = .ok (.invokestatic 52, 3) := by decide +kernel
theorem dL_lots_691 : decode cL_lots 691 = .ok (.aload_n 0, 1) := by decide +kernel
theorem dL_lots_692 : decode cL_lots 692 = .ok (.iload 6, 2) := by decide +kernel
theorem dL_lots_694 : decode cL_lots 694 = .ok (.iload 9, 2) := by decide +kernel
theorem dL_lots_696 : decode cL_lots 696 = .ok (.iload 8, 2) := by decide +kernel
theorem dL_lots_698 : decode cL_lots 698 = .ok (.iload 10, 2) := by decide +kernel
theorem dL_lots_700 : decode cL_lots 700 = .ok (.invokevirtual 47, 3) := by decide +kernel
theorem dL_lots_703 : decode cL_lots 703 = .ok (.aload_n 1, 1) := by decide +kernel
theorem dL_lots_704 : decode cL_lots 704 = .ok (.aload_n 2, 1) := by decide +kernel
theorem dL_lots_705 : decode cL_lots 705 = .ok (.iload 9, 2) := by decide +kernel
theorem dL_lots_707 : decode cL_lots 707 = .ok (.iload 10, 2) := by decide +kernel
theorem dL_lots_709 : decode cL_lots 709 = .ok (.iadd, 1) := by decide +kernel
theorem dL_lots_710 : decode cL_lots 710 = .ok (.iload 12, 2) := by decide +kernel
theorem dL_lots_712 : decode cL_lots 712 = .ok (.iload 9, 2) := by decide +kernel
theorem dL_lots_714 : decode cL_lots 714 = .ok (.iload 10, 2) := by decide +kernel
theorem dL_lots_716 : decode cL_lots 716 = .ok (.iadd, 1) := by decide +kernel
theorem dL_lots_717 : decode cL_lots 717 = .ok (.idiv, 1) := by decide +kernel
theorem dL_lots_718 : decode cL_lots 718 = .ok (.aload_n 1, 1) := by decide +kernel
theorem dL_lots_719 : decode cL_lots 719 = .ok (.iconst 0, 1) := by decide +kernel
theorem dL_lots_720 : decode cL_lots 720 = .ok (.iaload, 1) := by decide +kernel
theorem dL_lots_721 : decode cL_lots 721 = .ok (.invokestatic 38, 3) := by decide +kernel
theorem dL_lots_724 : decode cL_lots 724 = .ok (.if_icmp .ne 7, 3) := by decide +kernel
theorem dL_lots_727 : decode cL_lots 727 = .ok (.iconst 1, 1) := by decide +kernel
theorem dL_lots_728 : decode cL_lots 728 = .ok (.goto 4, 3) := by decide +kernel
theorem dL_lots_731 : decode cL_lots 731 = .ok (.iconst 0, 1) := by decide +kernel
theorem dL_lots_732 : decode cL_lots 732 = .ok (.ireturn, 1) := by decide +kernel
