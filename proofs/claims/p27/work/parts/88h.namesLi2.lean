theorem dL_isSo_345 : decode cL_isSo 345 = .ok (.iaload, 1) := by decide +kernel
theorem dL_isSo_346 : decode cL_isSo 346 = .ok (.if_icmp .ne 71, 3) := by decide +kernel
theorem dL_isSo_349 : decode cL_isSo 349 = .ok (.aload_n 0, 1) := by decide +kernel
theorem dL_isSo_350 : decode cL_isSo 350 = .ok (.iload 7, 2) := by decide +kernel
theorem dL_isSo_352 : decode cL_isSo 352 = .ok (.iconst 1, 1) := by decide +kernel
theorem dL_isSo_353 : decode cL_isSo 353 = .ok (.invokevirtual 103, 3) := by decide +kernel
theorem dL_isSo_356 : decode cL_isSo 356 = .ok (.aload_n 3, 1) := by decide +kernel
theorem dL_isSo_357 : decode cL_isSo 357 = .ok (.iconst 2, 1) := by decide +kernel
theorem dL_isSo_358 : decode cL_isSo 358 = .ok (.iload 7, 2) := by decide +kernel
theorem dL_isSo_360 : decode cL_isSo 360 = .ok (.imul, 1) := by decide +kernel
theorem dL_isSo_361 : decode cL_isSo 361 = .ok (.iconst 1, 1) := by decide +kernel
theorem dL_isSo_362 : decode cL_isSo 362 = .ok (.iadd, 1) := by decide +kernel
theorem dL_isSo_363 : decode cL_isSo 363 = .ok (.iaload, 1) := by decide +kernel
theorem dL_isSo_364 : decode cL_isSo 364 = .ok (.if_icmp .ne 53, 3) := by decide +kernel
theorem dL_isSo_367 : decode cL_isSo 367 = .ok (.aload_n 0, 1) := by decide +kernel
theorem dL_isSo_368 : decode cL_isSo 368 = .ok (.iload 7, 2) := by decide +kernel
theorem dL_isSo_370 : decode cL_isSo 370 = .ok (.iconst 2, 1) := by decide +kernel
theorem dL_isSo_371 : decode cL_isSo 371 = .ok (.invokevirtual 103, 3) := by decide +kernel
theorem dL_isSo_374 : decode cL_isSo 374 = .ok (.aload_n 3, 1) := by decide +kernel
theorem dL_isSo_375 : decode cL_isSo 375 = .ok (.iconst 2, 1) := by decide +kernel
theorem dL_isSo_376 : decode cL_isSo 376 = .ok (.iload 7, 2) := by decide +kernel
theorem dL_isSo_378 : decode cL_isSo 378 = .ok (.imul, 1) := by decide +kernel
theorem dL_isSo_379 : decode cL_isSo 379 = .ok (.iaload, 1) := by decide +kernel
theorem dL_isSo_380 : decode cL_isSo 380 = .ok (.aload_n 1, 1) := by decide +kernel
theorem dL_isSo_381 : decode cL_isSo 381 = .ok (.iconst 0, 1) := by decide +kernel
theorem dL_isSo_382 : decode cL_isSo 382 = .ok (.iaload, 1) := by decide +kernel
theorem dL_isSo_383 : decode cL_isSo 383 = .ok (.isub, 1) := by decide +kernel
theorem dL_isSo_384 : decode cL_isSo 384 = .ok (.if_icmp .ne 33, 3) := by decide +kernel
theorem dL_isSo_387 : decode cL_isSo 387 = .ok (.aload_n 0, 1) := by decide +kernel
theorem dL_isSo_388 : decode cL_isSo 388 = .ok (.iload 7, 2) := by decide +kernel
theorem dL_isSo_390 : decode cL_isSo 390 = .ok (.iconst 3, 1) := by decide +kernel
theorem dL_isSo_391 : decode cL_isSo 391 = .ok (.invokevirtual 103, 3) := by decide +kernel
theorem dL_isSo_394 : decode cL_isSo 394 = .ok (.ldc 44, 2) := by decide +kernel
theorem dL_isSo_396 : decode cL_isSo 396 = .ok (.if_icmp .ne 21, 3) := by decide +kernel
theorem dL_isSo_399 : decode cL_isSo 399 = .ok (.aload_n 3, 1) := by decide +kernel
theorem dL_isSo_400 : decode cL_isSo 400 = .ok (.iconst 2, 1) := by decide +kernel
theorem dL_isSo_401 : decode cL_isSo 401 = .ok (.iload 7, 2) := by decide +kernel
theorem dL_isSo_403 : decode cL_isSo 403 = .ok (.imul, 1) := by decide +kernel
theorem dL_isSo_404 : decode cL_isSo 404 = .ok (.iaload, 1) := by decide +kernel
theorem dL_isSo_405 : decode cL_isSo 405 = .ok (.aload_n 0, 1) := by decide +kernel
theorem dL_isSo_406 : decode cL_isSo 406 = .ok (.iconst 2, 1) := by decide +kernel
theorem dL_isSo_407 : decode cL_isSo 407 = .ok (.invokevirtual 100, 3) := by decide +kernel
theorem dL_isSo_410 : decode cL_isSo 410 = .ok (.if_icmp .lt 7, 3) := by decide +kernel
theorem dL_isSo_413 : decode cL_isSo 413 = .ok (.iconst 1, 1) := by decide +kernel
theorem dL_isSo_414 : decode cL_isSo 414 = .ok (.goto 4, 3) := by decide +kernel
theorem dL_isSo_417 : decode cL_isSo 417 = .ok (.iconst 0, 1) := by decide +kernel
theorem dL_isSo_418 : decode cL_isSo 418 = .ok (.istore 4, 2) := by decide +kernel
theorem dL_isSo_420 : decode cL_isSo 420 = .ok (.iinc 7 1, 3) := by decide +kernel
theorem dL_isSo_423 : decode cL_isSo 423 = .ok (.goto (-104), 3) := by decide +kernel
theorem dL_isSo_426 : decode cL_isSo 426 = .ok (.iconst 0, 1) := by decide +kernel
theorem dL_isSo_427 : decode cL_isSo 427 = .ok (.istore 7, 2) := by decide +kernel
theorem dL_isSo_429 : decode cL_isSo 429 = .ok (.iload 7, 2) := by decide +kernel
theorem dL_isSo_431 : decode cL_isSo 431 = .ok (.iconst 5, 1) := by decide +kernel
theorem dL_isSo_432 : decode cL_isSo 432 = .ok (.if_icmp .ge 40, 3) := by decide +kernel
theorem dL_isSo_435 : decode cL_isSo 435 = .ok (.iload 4, 2) := by decide +kernel
theorem dL_isSo_437 : decode cL_isSo 437 = .ok (.ifCond .eq 35, 3) := by decide +kernel
theorem dL_isSo_440 : decode cL_isSo 440 = .ok (.aload_n 0, 1) := by decide +kernel
theorem dL_isSo_441 : decode cL_isSo 441 = .ok (.bipush 20, 2) := by decide +kernel
theorem dL_isSo_443 : decode cL_isSo 443 = .ok (.iload 7, 2) := by decide +kernel
theorem dL_isSo_445 : decode cL_isSo 445 = .ok (.iadd, 1) := by decide +kernel
theorem dL_isSo_446 : decode cL_isSo 446 = .ok (.invokevirtual 100, 3) := by decide +kernel
theorem dL_isSo_449 : decode cL_isSo 449 = .ok (.aload_n 1, 1) := by decide +kernel
theorem dL_isSo_450 : decode cL_isSo 450 = .ok (.bipush 8, 2) := by decide +kernel
theorem dL_isSo_452 : decode cL_isSo 452 = .ok (.iload 7, 2) := by decide +kernel
theorem dL_isSo_454 : decode cL_isSo 454 = .ok (.iadd, 1) := by decide +kernel
theorem dL_isSo_455 : decode cL_isSo 455 = .ok (.iaload, 1) := by decide +kernel
theorem dL_isSo_456 : decode cL_isSo 456 = .ok (.if_icmp .ne 7, 3) := by decide +kernel
theorem dL_isSo_459 : decode cL_isSo 459 = .ok (.iconst 1, 1) := by decide +kernel
theorem dL_isSo_460 : decode cL_isSo 460 = .ok (.goto 4, 3) := by decide +kernel
theorem dL_isSo_463 : decode cL_isSo 463 = .ok (.iconst 0, 1) := by decide +kernel
theorem dL_isSo_464 : decode cL_isSo 464 = .ok (.istore 4, 2) := by decide +kernel
theorem dL_isSo_466 : decode cL_isSo 466 = .ok (.iinc 7 1, 3) := by decide +kernel
theorem dL_isSo_469 : decode cL_isSo 469 = .ok (.goto (-40), 3) := by decide +kernel
theorem dL_isSo_472 : decode cL_isSo 472 = .ok (.iload 4, 2) := by decide +kernel
theorem dL_isSo_474 : decode cL_isSo 474 = .ok (.ifCond .eq 57, 3) := by decide +kernel
theorem dL_isSo_477 : decode cL_isSo 477 = .ok (.aload_n 0, 1) := by decide +kernel
theorem dL_isSo_478 : decode cL_isSo 478 = .ok (.aload_n 1, 1) := by decide +kernel
theorem dL_isSo_479 : decode cL_isSo 479 = .ok (.bipush 6, 2) := by decide +kernel
theorem dL_isSo_481 : decode cL_isSo 481 = .ok (.iaload, 1) := by decide +kernel
theorem dL_isSo_482 : decode cL_isSo 482 = .ok (.invokevirtual 94, 3) := by decide +kernel
theorem dL_isSo_485 : decode cL_isSo 485 = .ok (.ldc 106, 2) := by decide +kernel
theorem dL_isSo_487 : decode cL_isSo 487 = .ok (.if_icmp .ne 44, 3) := by decide +kernel
theorem dL_isSo_490 : decode cL_isSo 490 = .ok (.aload_n 0, 1) := by decide +kernel
theorem dL_isSo_491 : decode cL_isSo 491 = .ok (.iconst (-1), 1) := by decide +kernel
theorem dL_isSo_492 : decode cL_isSo 492 = .ok (.invokevirtual 94, 3) := by decide +kernel
theorem dL_isSo_495 : decode cL_isSo 495 = .ok (.ldc 44, 2) := by decide +kernel
theorem dL_isSo_497 : decode cL_isSo 497 = .ok (.if_icmp .ne 34, 3) := by decide +kernel
theorem dL_isSo_500 : decode cL_isSo 500 = .ok (.aload_n 0, 1) := by decide +kernel
theorem dL_isSo_501 : decode cL_isSo 501 = .ok (.aload_n 1, 1) := by decide +kernel
theorem dL_isSo_502 : decode cL_isSo 502 = .ok (.iconst 5, 1) := by decide +kernel
theorem dL_isSo_503 : decode cL_isSo 503 = .ok (.iaload, 1) := by decide +kernel
theorem dL_isSo_504 : decode cL_isSo 504 = .ok (.iconst 0, 1) := by decide +kernel
theorem dL_isSo_505 : decode cL_isSo 505 = .ok (.invokevirtual 97, 3) := by decide +kernel
theorem dL_isSo_508 : decode cL_isSo 508 = .ok (.ldc 44, 2) := by decide +kernel
theorem dL_isSo_510 : decode cL_isSo 510 = .ok (.if_icmp .ne 21, 3) := by decide +kernel
theorem dL_isSo_513 : decode cL_isSo 513 = .ok (.aload_n 0, 1) := by decide +kernel
theorem dL_isSo_514 : decode cL_isSo 514 = .ok (.aload_n 1, 1) := by decide +kernel
theorem dL_isSo_515 : decode cL_isSo 515 = .ok (.bipush 7, 2) := by decide +kernel
theorem dL_isSo_517 : decode cL_isSo 517 = .ok (.iaload, 1) := by decide +kernel
theorem dL_isSo_518 : decode cL_isSo 518 = .ok (.iconst 0, 1) := by decide +kernel
theorem dL_isSo_519 : decode cL_isSo 519 = .ok (.invokevirtual 103, 3) := by decide +kernel
theorem dL_isSo_522 : decode cL_isSo 522 = .ok (.ldc 44, 2) := by decide +kernel
theorem dL_isSo_524 : decode cL_isSo 524 = .ok (.if_icmp .ne 7, 3) := by decide +kernel
theorem dL_isSo_527 : decode cL_isSo 527 = .ok (.iconst 1, 1) := by decide +kernel
theorem dL_isSo_528 : decode cL_isSo 528 = .ok (.goto 4, 3) := by decide +kernel
theorem dL_isSo_531 : decode cL_isSo 531 = .ok (.iconst 0, 1) := by decide +kernel
theorem dL_isSo_532 : decode cL_isSo 532 = .ok (.istore 4, 2) := by decide +kernel
theorem dL_isSo_534 : decode cL_isSo 534 = .ok (.iload 4, 2) := by decide +kernel
theorem dL_isSo_536 : decode cL_isSo 536 = .ok (.ifCond .eq 130, 3) := by decide +kernel
theorem dL_isSo_539 : decode cL_isSo 539 = .ok (.aload_n 0, 1) := by decide +kernel
theorem dL_isSo_540 : decode cL_isSo 540 = .ok (.iconst 0, 1) := by decide +kernel
theorem dL_isSo_541 : decode cL_isSo 541 = .ok (.invokevirtual 100, 3) := by decide +kernel
theorem dL_isSo_544 : decode cL_isSo 544 = .ok (.aload_n 1, 1) := by decide +kernel
theorem dL_isSo_545 : decode cL_isSo 545 = .ok (.bipush 6, 2) := by decide +kernel
theorem dL_isSo_547 : decode cL_isSo 547 = .ok (.iaload, 1) := by decide +kernel
theorem dL_isSo_548 : decode cL_isSo 548 = .ok (.if_icmp .ne 118, 3) := by decide +kernel
theorem dL_isSo_551 : decode cL_isSo 551 = .ok (.aload_n 0, 1) := by decide +kernel
theorem dL_isSo_552 : decode cL_isSo 552 = .ok (.iconst 1, 1) := by decide +kernel
theorem dL_isSo_553 : decode cL_isSo 553 = .ok (.invokevirtual 100, 3) := by decide +kernel
theorem dL_isSo_556 : decode cL_isSo 556 = .ok (.iload 5, 2) := by decide +kernel
theorem dL_isSo_558 : decode cL_isSo 558 = .ok (.if_icmp .ne 108, 3) := by decide +kernel
theorem dL_isSo_561 : decode cL_isSo 561 = .ok (.aload_n 0, 1) := by decide +kernel
theorem dL_isSo_562 : decode cL_isSo 562 = .ok (.iconst 2, 1) := by decide +kernel
theorem dL_isSo_563 : decode cL_isSo 563 = .ok (.invokevirtual 100, 3) := by decide +kernel
theorem dL_isSo_566 : decode cL_isSo 566 = .ok (.aload_n 1, 1) := by decide +kernel
theorem dL_isSo_567 : decode cL_isSo 567 = .ok (.iconst 0, 1) := by decide +kernel
theorem dL_isSo_568 : decode cL_isSo 568 = .ok (.iaload, 1) := by decide +kernel
theorem dL_isSo_569 : decode cL_isSo 569 = .ok (.if_icmp .ne 97, 3) := by decide +kernel
theorem dL_isSo_572 : decode cL_isSo 572 = .ok (.aload_n 0, 1) := by decide +kernel
theorem dL_isSo_573 : decode cL_isSo 573 = .ok (.iconst 3, 1) := by decide +kernel
theorem dL_isSo_574 : decode cL_isSo 574 = .ok (.invokevirtual 100, 3) := by decide +kernel
theorem dL_isSo_577 : decode cL_isSo 577 = .ok (.aload_n 1, 1) := by decide +kernel
theorem dL_isSo_578 : decode cL_isSo 578 = .ok (.bipush 7, 2) := by decide +kernel
theorem dL_isSo_580 : decode cL_isSo 580 = .ok (.iaload, 1) := by decide +kernel
theorem dL_isSo_581 : decode cL_isSo 581 = .ok (.if_icmp .ne 85, 3) := by decide +kernel
theorem dL_isSo_584 : decode cL_isSo 584 = .ok (.aload_n 0, 1) := by decide +kernel
theorem dL_isSo_585 : decode cL_isSo 585 = .ok (.iconst 4, 1) := by decide +kernel
theorem dL_isSo_586 : decode cL_isSo 586 = .ok (.invokevirtual 100, 3) := by decide +kernel
theorem dL_isSo_589 : decode cL_isSo 589 = .ok (.aload_n 1, 1) := by decide +kernel
theorem dL_isSo_590 : decode cL_isSo 590 = .ok (.iconst 1, 1) := by decide +kernel
theorem dL_isSo_591 : decode cL_isSo 591 = .ok (.iaload, 1) := by decide +kernel
theorem dL_isSo_592 : decode cL_isSo 592 = .ok (.if_icmp .ne 74, 3) := by decide +kernel
theorem dL_isSo_595 : decode cL_isSo 595 = .ok (.aload_n 0, 1) := by decide +kernel
theorem dL_isSo_596 : decode cL_isSo 596 = .ok (.iconst 5, 1) := by decide +kernel
theorem dL_isSo_597 : decode cL_isSo 597 = .ok (.invokevirtual 100, 3) := by decide +kernel
theorem dL_isSo_600 : decode cL_isSo 600 = .ok (.aload_n 1, 1) := by decide +kernel
theorem dL_isSo_601 : decode cL_isSo 601 = .ok (.iconst 2, 1) := by decide +kernel
theorem dL_isSo_602 : decode cL_isSo 602 = .ok (.iaload, 1) := by decide +kernel
theorem dL_isSo_603 : decode cL_isSo 603 = .ok (.if_icmp .ne 63, 3) := by decide +kernel
theorem dL_isSo_606 : decode cL_isSo 606 = .ok (.aload_n 0, 1) := by decide +kernel
theorem dL_isSo_607 : decode cL_isSo 607 = .ok (.bipush 6, 2) := by decide +kernel
theorem dL_isSo_609 : decode cL_isSo 609 = .ok (.invokevirtual 100, 3) := by decide +kernel
theorem dL_isSo_612 : decode cL_isSo 612 = .ok (.aload_n 1, 1) := by decide +kernel
theorem dL_isSo_613 : decode cL_isSo 613 = .ok (.iconst 3, 1) := by decide +kernel
theorem dL_isSo_614 : decode cL_isSo 614 = .ok (.iaload, 1) := by decide +kernel
theorem dL_isSo_615 : decode cL_isSo 615 = .ok (.if_icmp .ne 51, 3) := by decide +kernel
theorem dL_isSo_618 : decode cL_isSo 618 = .ok (.aload_n 0, 1) := by decide +kernel
theorem dL_isSo_619 : decode cL_isSo 619 = .ok (.bipush 7, 2) := by decide +kernel
theorem dL_isSo_621 : decode cL_isSo 621 = .ok (.invokevirtual 100, 3) := by decide +kernel
theorem dL_isSo_624 : decode cL_isSo 624 = .ok (.aload_n 1, 1) := by decide +kernel
theorem dL_isSo_625 : decode cL_isSo 625 = .ok (.iconst 4, 1) := by decide +kernel
theorem dL_isSo_626 : decode cL_isSo 626 = .ok (.iaload, 1) := by decide +kernel
theorem dL_isSo_627 : decode cL_isSo 627 = .ok (.if_icmp .ne 39, 3) := by decide +kernel
theorem dL_isSo_630 : decode cL_isSo 630 = .ok (.aload_n 0, 1) := by decide +kernel
theorem dL_isSo_631 : decode cL_isSo 631 = .ok (.bipush 8, 2) := by decide +kernel
theorem dL_isSo_633 : decode cL_isSo 633 = .ok (.invokevirtual 100, 3) := by decide +kernel
theorem dL_isSo_636 : decode cL_isSo 636 = .ok (.iload 6, 2) := by decide +kernel
theorem dL_isSo_638 : decode cL_isSo 638 = .ok (.if_icmp .ne 28, 3) := by decide +kernel
theorem dL_isSo_641 : decode cL_isSo 641 = .ok (.aload_n 0, 1) := by decide +kernel
theorem dL_isSo_642 : decode cL_isSo 642 = .ok (.bipush 9, 2) := by decide +kernel
theorem dL_isSo_644 : decode cL_isSo 644 = .ok (.invokevirtual 100, 3) := by decide +kernel
theorem dL_isSo_647 : decode cL_isSo 647 = .ok (.aload_n 1, 1) := by decide +kernel
theorem dL_isSo_648 : decode cL_isSo 648 = .ok (.iconst 5, 1) := by decide +kernel
theorem dL_isSo_649 : decode cL_isSo 649 = .ok (.iaload, 1) := by decide +kernel
theorem dL_isSo_650 : decode cL_isSo 650 = .ok (.if_icmp .ne 16, 3) := by decide +kernel
theorem dL_isSo_653 : decode cL_isSo 653 = .ok (.aload_n 0, 1) := by decide +kernel
theorem dL_isSo_654 : decode cL_isSo 654 = .ok (.bipush 11, 2) := by decide +kernel
theorem dL_isSo_656 : decode cL_isSo 656 = .ok (.invokevirtual 100, 3) := by decide +kernel
theorem dL_isSo_659 : decode cL_isSo 659 = .ok (.ifCond .ne 7, 3) := by decide +kernel
theorem dL_isSo_662 : decode cL_isSo 662 = .ok (.iconst 1, 1) := by decide +kernel
theorem dL_isSo_663 : decode cL_isSo 663 = .ok (.goto 4, 3) := by decide +kernel
theorem dL_isSo_666 : decode cL_isSo 666 = .ok (.iconst 0, 1) := by decide +kernel
theorem dL_isSo_667 : decode cL_isSo 667 = .ok (.ireturn, 1) := by decide +kernel
