theorem dL_acts_347 : decode cL_acts 347 = .ok (.iconst 0, 1) := by decide +kernel
theorem dL_acts_348 : decode cL_acts 348 = .ok (.iconst 1, 1) := by decide +kernel
theorem dL_acts_349 : decode cL_acts 349 = .ok (.invokevirtual 70, 3) := by decide +kernel
theorem dL_acts_352 : decode cL_acts 352 = .ok (.ldc 44, 2) := by decide +kernel
theorem dL_acts_354 : decode cL_acts 354 = .ok (.if_icmp .ne 7, 3) := by decide +kernel
theorem dL_acts_357 : decode cL_acts 357 = .ok (.iconst 1, 1) := by decide +kernel
theorem dL_acts_358 : decode cL_acts 358 = .ok (.goto 4, 3) := by decide +kernel
theorem dL_acts_361 : decode cL_acts 361 = .ok (.iconst 0, 1) := by decide +kernel
theorem dL_acts_362 : decode cL_acts 362 = .ok (.ireturn, 1) := by decide +kernel
theorem dL_acts_363 : decode cL_acts 363 = .ok (.iload 6, 2) := by decide +kernel
theorem dL_acts_365 : decode cL_acts 365 = .ok (.bipush 15, 2) := by decide +kernel
theorem dL_acts_367 : decode cL_acts 367 = .ok (.if_icmp .ne 73, 3) := by decide +kernel
theorem dL_acts_370 : decode cL_acts 370 = .ok (.iconst 1, 1) := by decide +kernel
theorem dL_acts_371 : decode cL_acts 371 = .ok (.iload 5, 2) := by decide +kernel
theorem dL_acts_373 : decode cL_acts 373 = .ok (.bipush 6, 2) := by decide +kernel
theorem dL_acts_375 : decode cL_acts 375 = .ok (.idiv, 1) := by decide +kernel
theorem dL_acts_376 : decode cL_acts 376 = .ok (.sipush 999, 3) := by decide +kernel
theorem dL_acts_379 : decode cL_acts 379 = .ok (.irem, 1) := by decide +kernel
theorem dL_acts_380 : decode cL_acts 380 = .ok (.iadd, 1) := by decide +kernel
theorem dL_acts_381 : decode cL_acts 381 = .ok (.istore 8, 2) := by decide +kernel
theorem dL_acts_383 : decode cL_acts 383 = .ok (.aload_n 1, 1) := by decide +kernel
theorem dL_acts_384 : decode cL_acts 384 = .ok (.bipush 8, 2) := by decide +kernel
theorem dL_acts_386 : decode cL_acts 386 = .ok (.iaload, 1) := by decide +kernel
theorem dL_acts_387 : decode cL_acts 387 = .ok (.aload_n 3, 1) := by decide +kernel
theorem dL_acts_388 : decode cL_acts 388 = .ok (.iconst 2, 1) := by decide +kernel
theorem dL_acts_389 : decode cL_acts 389 = .ok (.iload 7, 2) := by decide +kernel
theorem dL_acts_391 : decode cL_acts 391 = .ok (.imul, 1) := by decide +kernel
theorem dL_acts_392 : decode cL_acts 392 = .ok (.iconst 1, 1) := by decide +kernel
theorem dL_acts_393 : decode cL_acts 393 = .ok (.iadd, 1) := by decide +kernel
theorem dL_acts_394 : decode cL_acts 394 = .ok (.iaload, 1) := by decide +kernel
theorem dL_acts_395 : decode cL_acts 395 = .ok (.imul, 1) := by decide +kernel
theorem dL_acts_396 : decode cL_acts 396 = .ok (.aload_n 1, 1) := by decide +kernel
theorem dL_acts_397 : decode cL_acts 397 = .ok (.bipush 8, 2) := by decide +kernel
theorem dL_acts_399 : decode cL_acts 399 = .ok (.iaload, 1) := by decide +kernel
theorem dL_acts_400 : decode cL_acts 400 = .ok (.iload 8, 2) := by decide +kernel
theorem dL_acts_402 : decode cL_acts 402 = .ok (.imul, 1) := by decide +kernel
theorem dL_acts_403 : decode cL_acts 403 = .ok (.isub, 1) := by decide +kernel
theorem dL_acts_404 : decode cL_acts 404 = .ok (.istore 9, 2) := by decide +kernel
theorem dL_acts_406 : decode cL_acts 406 = .ok (.aload_n 1, 1) := by decide +kernel
theorem dL_acts_407 : decode cL_acts 407 = .ok (.iconst 1, 1) := by decide +kernel
theorem dL_acts_408 : decode cL_acts 408 = .ok (.dup2, 1) := by decide +kernel
theorem dL_acts_409 : decode cL_acts 409 = .ok (.iaload, 1) := by decide +kernel
theorem dL_acts_410 : decode cL_acts 410 = .ok (.iload 9, 2) := by decide +kernel
theorem dL_acts_412 : decode cL_acts 412 = .ok (.iadd, 1) := by decide +kernel
theorem dL_acts_413 : decode cL_acts 413 = .ok (.iastore, 1) := by decide +kernel
theorem dL_acts_414 : decode cL_acts 414 = .ok (.aload_n 1, 1) := by decide +kernel
theorem dL_acts_415 : decode cL_acts 415 = .ok (.aload_n 3, 1) := by decide +kernel
theorem dL_acts_416 : decode cL_acts 416 = .ok (.iload 7, 2) := by decide +kernel
theorem dL_acts_418 : decode cL_acts 418 = .ok (.invokestatic 73, 3) := by decide +kernel
theorem dL_acts_421 : decode cL_acts 421 = .ok (.aload_n 0, 1) := by decide +kernel
theorem dL_acts_422 : decode cL_acts 422 = .ok (.iload 7, 2) := by decide +kernel
theorem dL_acts_424 : decode cL_acts 424 = .ok (.iload 8, 2) := by decide +kernel
theorem dL_acts_426 : decode cL_acts 426 = .ok (.invokevirtual 70, 3) := by decide +kernel
theorem dL_acts_429 : decode cL_acts 429 = .ok (.iload 9, 2) := by decide +kernel
theorem dL_acts_431 : decode cL_acts 431 = .ok (.if_icmp .ne 7, 3) := by decide +kernel
theorem dL_acts_434 : decode cL_acts 434 = .ok (.iconst 1, 1) := by decide +kernel
theorem dL_acts_435 : decode cL_acts 435 = .ok (.goto 4, 3) := by decide +kernel
theorem dL_acts_438 : decode cL_acts 438 = .ok (.iconst 0, 1) := by decide +kernel
theorem dL_acts_439 : decode cL_acts 439 = .ok (.ireturn, 1) := by decide +kernel
theorem dL_acts_440 : decode cL_acts 440 = .ok (.bipush 25, 2) := by decide +kernel
theorem dL_acts_442 : decode cL_acts 442 = .ok (.newarray .int, 2) := by decide +kernel
theorem dL_acts_444 : decode cL_acts 444 = .ok (.astore 8, 2) := by decide +kernel
theorem dL_acts_446 : decode cL_acts 446 = .ok (.aload_n 1, 1) := by decide +kernel
theorem dL_acts_447 : decode cL_acts 447 = .ok (.aload_n 2, 1) := by decide +kernel
theorem dL_acts_448 : decode cL_acts 448 = .ok (.aload_n 3, 1) := by decide +kernel
theorem dL_acts_449 : decode cL_acts 449 = .ok (.iconst 2, 1) := by decide +kernel
theorem dL_acts_450 : decode cL_acts 450 = .ok (.iload 7, 2) := by decide +kernel
theorem dL_acts_452 : decode cL_acts 452 = .ok (.imul, 1) := by decide +kernel
theorem dL_acts_453 : decode cL_acts 453 = .ok (.iconst 1, 1) := by decide +kernel
theorem dL_acts_454 : decode cL_acts 454 = .ok (.iadd, 1) := by decide +kernel
theorem dL_acts_455 : decode cL_acts 455 = .ok (.iaload, 1) := by decide +kernel
theorem dL_acts_456 : decode cL_acts 456 = .ok (.aload_n 1, 1) := by decide +kernel
theorem dL_acts_457 : decode cL_acts 457 = .ok (.iconst 0, 1) := by decide +kernel
theorem dL_acts_458 : decode cL_acts 458 = .ok (.iaload, 1) := by decide +kernel
theorem dL_acts_459 : decode cL_acts 459 = .ok (.aload 8, 2) := by decide +kernel
theorem dL_acts_461 : decode cL_acts 461 = .ok (.invokestatic 77, 3) := by decide +kernel
theorem dL_acts_464 : decode cL_acts 464 = .ok (.istore 9, 2) := by decide +kernel
theorem dL_acts_466 : decode cL_acts 466 = .ok (.aload_n 3, 1) := by decide +kernel
theorem dL_acts_467 : decode cL_acts 467 = .ok (.iconst 2, 1) := by decide +kernel
theorem dL_acts_468 : decode cL_acts 468 = .ok (.iload 7, 2) := by decide +kernel
theorem dL_acts_470 : decode cL_acts 470 = .ok (.imul, 1) := by decide +kernel
theorem dL_acts_471 : decode cL_acts 471 = .ok (.iaload, 1) := by decide +kernel
theorem dL_acts_472 : decode cL_acts 472 = .ok (.aload_n 1, 1) := by decide +kernel
theorem dL_acts_473 : decode cL_acts 473 = .ok (.iconst 0, 1) := by decide +kernel
theorem dL_acts_474 : decode cL_acts 474 = .ok (.iaload, 1) := by decide +kernel
theorem dL_acts_475 : decode cL_acts 475 = .ok (.if_icmp .ne 11, 3) := by decide +kernel
theorem dL_acts_478 : decode cL_acts 478 = .ok (.aload 8, 2) := by decide +kernel
theorem dL_acts_480 : decode cL_acts 480 = .ok (.bipush 24, 2) := by decide +kernel
theorem dL_acts_482 : decode cL_acts 482 = .ok (.iaload, 1) := by decide +kernel
theorem dL_acts_483 : decode cL_acts 483 = .ok (.ifCond .le 20, 3) := by decide +kernel
theorem dL_acts_486 : decode cL_acts 486 = .ok (.aload_n 0, 1) := by decide +kernel
theorem dL_acts_487 : decode cL_acts 487 = .ok (.iload 7, 2) := by decide +kernel
theorem dL_acts_489 : decode cL_acts 489 = .ok (.invokevirtual 67, 3) := by decide +kernel
theorem dL_acts_492 : decode cL_acts 492 = .ok (.ldc 51, 2) := by decide +kernel
theorem dL_acts_494 : decode cL_acts 494 = .ok (.if_icmp .ne 7, 3) := by decide +kernel
theorem dL_acts_497 : decode cL_acts 497 = .ok (.iconst 1, 1) := by decide +kernel
theorem dL_acts_498 : decode cL_acts 498 = .ok (.goto 4, 3) := by decide +kernel
theorem dL_acts_501 : decode cL_acts 501 = .ok (.iconst 0, 1) := by decide +kernel
theorem dL_acts_502 : decode cL_acts 502 = .ok (.ireturn, 1) := by decide +kernel
theorem dL_acts_503 : decode cL_acts 503 = .ok (.aload_n 1, 1) := by decide +kernel
theorem dL_acts_504 : decode cL_acts 504 = .ok (.aload_n 2, 1) := by decide +kernel
theorem dL_acts_505 : decode cL_acts 505 = .ok (.aload_n 3, 1) := by decide +kernel
theorem dL_acts_506 : decode cL_acts 506 = .ok (.iconst 2, 1) := by decide +kernel
theorem dL_acts_507 : decode cL_acts 507 = .ok (.iload 7, 2) := by decide +kernel
theorem dL_acts_509 : decode cL_acts 509 = .ok (.imul, 1) := by decide +kernel
theorem dL_acts_510 : decode cL_acts 510 = .ok (.iconst 1, 1) := by decide +kernel
theorem dL_acts_511 : decode cL_acts 511 = .ok (.iadd, 1) := by decide +kernel
theorem dL_acts_512 : decode cL_acts 512 = .ok (.iaload, 1) := by decide +kernel
theorem dL_acts_513 : decode cL_acts 513 = .ok (.aload_n 1, 1) := by decide +kernel
theorem dL_acts_514 : decode cL_acts 514 = .ok (.iconst 0, 1) := by decide +kernel
theorem dL_acts_515 : decode cL_acts 515 = .ok (.iaload, 1) := by decide +kernel
theorem dL_acts_516 : decode cL_acts 516 = .ok (.aload 8, 2) := by decide +kernel
theorem dL_acts_518 : decode cL_acts 518 = .ok (.iload 9, 2) := by decide +kernel
theorem dL_acts_520 : decode cL_acts 520 = .ok (.iconst 0, 1) := by decide +kernel
theorem dL_acts_521 : decode cL_acts 521 = .ok (.invokestatic 81, 3) := by decide +kernel
theorem dL_acts_524 : decode cL_acts 524 = .ok (.istore 10, 2) := by decide +kernel
theorem dL_acts_526 : decode cL_acts 526 = .ok (.iconst 0, 1) := by decide +kernel
theorem dL_acts_527 : decode cL_acts 527 = .ok (.istore 11, 2) := by decide +kernel
theorem dL_acts_529 : decode cL_acts 529 = .ok (.iload 11, 2) := by decide +kernel
theorem dL_acts_531 : decode cL_acts 531 = .ok (.iload 9, 2) := by decide +kernel
theorem dL_acts_533 : decode cL_acts 533 = .ok (.if_icmp .ge 30, 3) := by decide +kernel
theorem dL_acts_536 : decode cL_acts 536 = .ok (.aload_n 1, 1) := by decide +kernel
theorem dL_acts_537 : decode cL_acts 537 = .ok (.aload_n 2, 1) := by decide +kernel
theorem dL_acts_538 : decode cL_acts 538 = .ok (.aload 8, 2) := by decide +kernel
theorem dL_acts_540 : decode cL_acts 540 = .ok (.iconst 2, 1) := by decide +kernel
theorem dL_acts_541 : decode cL_acts 541 = .ok (.iload 11, 2) := by decide +kernel
theorem dL_acts_543 : decode cL_acts 543 = .ok (.imul, 1) := by decide +kernel
theorem dL_acts_544 : decode cL_acts 544 = .ok (.iaload, 1) := by decide +kernel
theorem dL_acts_545 : decode cL_acts 545 = .ok (.aload 8, 2) := by decide +kernel
theorem dL_acts_547 : decode cL_acts 547 = .ok (.iconst 2, 1) := by decide +kernel
theorem dL_acts_548 : decode cL_acts 548 = .ok (.iload 11, 2) := by decide +kernel
theorem dL_acts_550 : decode cL_acts 550 = .ok (.imul, 1) := by decide +kernel
theorem dL_acts_551 : decode cL_acts 551 = .ok (.iconst 1, 1) := by decide +kernel
theorem dL_acts_552 : decode cL_acts 552 = .ok (.iadd, 1) := by decide +kernel
theorem dL_acts_553 : decode cL_acts 553 = .ok (.iaload, 1) := by decide +kernel
theorem dL_acts_554 : decode cL_acts 554 = .ok (.invokestatic 52, 3) := by decide +kernel
theorem dL_acts_557 : decode cL_acts 557 = .ok (.iinc 11 1, 3) := by decide +kernel
theorem dL_acts_560 : decode cL_acts 560 = .ok (.goto (-31), 3) := by decide +kernel
theorem dL_acts_563 : decode cL_acts 563 = .ok (.aload_n 1, 1) := by decide +kernel
theorem dL_acts_564 : decode cL_acts 564 = .ok (.iconst 1, 1) := by decide +kernel
theorem dL_acts_565 : decode cL_acts 565 = .ok (.dup2, 1) := by decide +kernel
theorem dL_acts_566 : decode cL_acts 566 = .ok (.iaload, 1) := by decide +kernel
theorem dL_acts_567 : decode cL_acts 567 = .ok (.iload 10, 2) := by decide +kernel
theorem dL_acts_569 : decode cL_acts 569 = .ok (.iadd, 1) := by decide +kernel
theorem dL_acts_570 : decode cL_acts 570 = .ok (.iastore, 1) := by decide +kernel
theorem dL_acts_571 : decode cL_acts 571 = .ok (.aload_n 1, 1) := by decide +kernel
theorem dL_acts_572 : decode cL_acts 572 = .ok (.iconst 2, 1) := by decide +kernel
theorem dL_acts_573 : decode cL_acts 573 = .ok (.dup2, 1) := by decide +kernel
theorem dL_acts_574 : decode cL_acts 574 = .ok (.iaload, 1) := by decide +kernel
theorem dL_acts_575 : decode cL_acts 575 = .ok (.iconst 1, 1) := by decide +kernel
theorem dL_acts_576 : decode cL_acts 576 = .ok (.iadd, 1) := by decide +kernel
theorem dL_acts_577 : decode cL_acts 577 = .ok (.iastore, 1) := by decide +kernel
theorem dL_acts_578 : decode cL_acts 578 = .ok (.aload_n 1, 1) := by decide +kernel
theorem dL_acts_579 : decode cL_acts 579 = .ok (.iconst 4, 1) := by decide +kernel
theorem dL_acts_580 : decode cL_acts 580 = .ok (.dup2, 1) := by decide +kernel
theorem dL_acts_581 : decode cL_acts 581 = .ok (.iaload, 1) := by decide +kernel
theorem dL_acts_582 : decode cL_acts 582 = .ok (.aload_n 1, 1) := by decide +kernel
theorem dL_acts_583 : decode cL_acts 583 = .ok (.bipush 8, 2) := by decide +kernel
theorem dL_acts_585 : decode cL_acts 585 = .ok (.iaload, 1) := by decide +kernel
theorem dL_acts_586 : decode cL_acts 586 = .ok (.iadd, 1) := by decide +kernel
theorem dL_acts_587 : decode cL_acts 587 = .ok (.iastore, 1) := by decide +kernel
theorem dL_acts_588 : decode cL_acts 588 = .ok (.aload_n 1, 1) := by decide +kernel
theorem dL_acts_589 : decode cL_acts 589 = .ok (.aload_n 3, 1) := by decide +kernel
theorem dL_acts_590 : decode cL_acts 590 = .ok (.iload 7, 2) := by decide +kernel
theorem dL_acts_592 : decode cL_acts 592 = .ok (.invokestatic 73, 3) := by decide +kernel
theorem dL_acts_595 : decode cL_acts 595 = .ok (.aload_n 0, 1) := by decide +kernel
theorem dL_acts_596 : decode cL_acts 596 = .ok (.iload 7, 2) := by decide +kernel
theorem dL_acts_598 : decode cL_acts 598 = .ok (.invokevirtual 67, 3) := by decide +kernel
theorem dL_acts_601 : decode cL_acts 601 = .ok (.iload 10, 2) := by decide +kernel
theorem dL_acts_603 : decode cL_acts 603 = .ok (.if_icmp .ne 7, 3) := by decide +kernel
theorem dL_acts_606 : decode cL_acts 606 = .ok (.iconst 1, 1) := by decide +kernel
theorem dL_acts_607 : decode cL_acts 607 = .ok (.goto 4, 3) := by decide +kernel
theorem dL_acts_610 : decode cL_acts 610 = .ok (.iconst 0, 1) := by decide +kernel
theorem dL_acts_611 : decode cL_acts 611 = .ok (.ireturn, 1) := by decide +kernel
theorem dL_acts_612 : decode cL_acts 612 = .ok (.iload 6, 2) := by decide +kernel
theorem dL_acts_614 : decode cL_acts 614 = .ok (.bipush 23, 2) := by decide +kernel
theorem dL_acts_616 : decode cL_acts 616 = .ok (.if_icmp .ge 150, 3) := by decide +kernel
theorem dL_acts_619 : decode cL_acts 619 = .ok (.iconst 1, 1) := by decide +kernel
theorem dL_acts_620 : decode cL_acts 620 = .ok (.iload 5, 2) := by decide +kernel
theorem dL_acts_622 : decode cL_acts 622 = .ok (.iload 5, 2) := by decide +kernel
theorem dL_acts_624 : decode cL_acts 624 = .ok (.iconst 4, 1) := by decide +kernel
theorem dL_acts_625 : decode cL_acts 625 = .ok (.irem, 1) := by decide +kernel
theorem dL_acts_626 : decode cL_acts 626 = .ok (.ifCond .ne 8, 3) := by decide +kernel
theorem dL_acts_629 : decode cL_acts 629 = .ok (.bipush 24, 2) := by decide +kernel
theorem dL_acts_631 : decode cL_acts 631 = .ok (.goto 4, 3) := by decide +kernel
theorem dL_acts_634 : decode cL_acts 634 = .ok (.iconst 3, 1) := by decide +kernel
theorem dL_acts_635 : decode cL_acts 635 = .ok (.irem, 1) := by decide +kernel
theorem dL_acts_636 : decode cL_acts 636 = .ok (.iadd, 1) := by decide +kernel
theorem dL_acts_637 : decode cL_acts 637 = .ok (.istore 7, 2) := by decide +kernel
theorem dL_acts_639 : decode cL_acts 639 = .ok (.aload_n 1, 1) := by decide +kernel
theorem dL_acts_640 : decode cL_acts 640 = .ok (.iconst 0, 1) := by decide +kernel
theorem dL_acts_641 : decode cL_acts 641 = .ok (.iaload, 1) := by decide +kernel
theorem dL_acts_642 : decode cL_acts 642 = .ok (.iload 7, 2) := by decide +kernel
theorem dL_acts_644 : decode cL_acts 644 = .ok (.iadd, 1) := by decide +kernel
theorem dL_acts_645 : decode cL_acts 645 = .ok (.sipush 999, 3) := by decide +kernel
theorem dL_acts_648 : decode cL_acts 648 = .ok (.if_icmp .le 20, 3) := by decide +kernel
theorem dL_acts_651 : decode cL_acts 651 = .ok (.aload_n 0, 1) := by decide +kernel
theorem dL_acts_652 : decode cL_acts 652 = .ok (.iload 7, 2) := by decide +kernel
theorem dL_acts_654 : decode cL_acts 654 = .ok (.invokevirtual 85, 3) := by decide +kernel
theorem dL_acts_657 : decode cL_acts 657 = .ok (.ldc 37, 2) := by decide +kernel
