theorem dL_choices_368 : decode cL_choices 368 = .ok (.invokestatic 134, 3) := by decide +kernel
theorem dL_choices_371 : decode cL_choices 371 = .ok (.iinc 11 1, 3) := by decide +kernel
theorem dL_choices_374 : decode cL_choices 374 = .ok (.aload_n 3, 1) := by decide +kernel
theorem dL_choices_375 : decode cL_choices 375 = .ok (.aload 4, 2) := by decide +kernel
theorem dL_choices_377 : decode cL_choices 377 = .ok (.aload 6, 2) := by decide +kernel
theorem dL_choices_379 : decode cL_choices 379 = .ok (.aload 7, 2) := by decide +kernel
theorem dL_choices_381 : decode cL_choices 381 = .ok (.aload 8, 2) := by decide +kernel
theorem dL_choices_383 : decode cL_choices 383 = .ok (.iload 9, 2) := by decide +kernel
theorem dL_choices_385 : decode cL_choices 385 = .ok (.iload 10, 2) := by decide +kernel
theorem dL_choices_387 : decode cL_choices 387 = .ok (.invokestatic 140, 3) := by decide +kernel
theorem dL_choices_390 : decode cL_choices 390 = .ok (.istore 13, 2) := by decide +kernel
theorem dL_choices_392 : decode cL_choices 392 = .ok (.iload 13, 2) := by decide +kernel
theorem dL_choices_394 : decode cL_choices 394 = .ok (.ifCond .lt 68, 3) := by decide +kernel
theorem dL_choices_397 : decode cL_choices 397 = .ok (.aload 8, 2) := by decide +kernel
theorem dL_choices_399 : decode cL_choices 399 = .ok (.iconst 5, 1) := by decide +kernel
theorem dL_choices_400 : decode cL_choices 400 = .ok (.iaload, 1) := by decide +kernel
theorem dL_choices_401 : decode cL_choices 401 = .ok (.iconst 1, 1) := by decide +kernel
theorem dL_choices_402 : decode cL_choices 402 = .ok (.isub, 1) := by decide +kernel
theorem dL_choices_403 : decode cL_choices 403 = .ok (.istore 14, 2) := by decide +kernel
theorem dL_choices_405 : decode cL_choices 405 = .ok (.iload 13, 2) := by decide +kernel
theorem dL_choices_407 : decode cL_choices 407 = .ok (.aload 6, 2) := by decide +kernel
theorem dL_choices_409 : decode cL_choices 409 = .ok (.iload 14, 2) := by decide +kernel
theorem dL_choices_411 : decode cL_choices 411 = .ok (.iaload, 1) := by decide +kernel
theorem dL_choices_412 : decode cL_choices 412 = .ok (.ishr, 1) := by decide +kernel
theorem dL_choices_413 : decode cL_choices 413 = .ok (.iconst 1, 1) := by decide +kernel
theorem dL_choices_414 : decode cL_choices 414 = .ok (.iand, 1) := by decide +kernel
theorem dL_choices_415 : decode cL_choices 415 = .ok (.ifCond .ne 9, 3) := by decide +kernel
theorem dL_choices_418 : decode cL_choices 418 = .ok (.iinc 14 (-1), 3) := by decide +kernel
theorem dL_choices_421 : decode cL_choices 421 = .ok (.goto (-16), 3) := by decide +kernel
theorem dL_choices_424 : decode cL_choices 424 = .ok (.aload 6, 2) := by decide +kernel
theorem dL_choices_426 : decode cL_choices 426 = .ok (.aload 7, 2) := by decide +kernel
theorem dL_choices_428 : decode cL_choices 428 = .ok (.aload 8, 2) := by decide +kernel
theorem dL_choices_430 : decode cL_choices 430 = .ok (.aload 6, 2) := by decide +kernel
theorem dL_choices_432 : decode cL_choices 432 = .ok (.iload 14, 2) := by decide +kernel
theorem dL_choices_434 : decode cL_choices 434 = .ok (.iaload, 1) := by decide +kernel
theorem dL_choices_435 : decode cL_choices 435 = .ok (.invokestatic 134, 3) := by decide +kernel
theorem dL_choices_438 : decode cL_choices 438 = .ok (.iinc 11 1, 3) := by decide +kernel
theorem dL_choices_441 : decode cL_choices 441 = .ok (.aload_n 3, 1) := by decide +kernel
theorem dL_choices_442 : decode cL_choices 442 = .ok (.aload 4, 2) := by decide +kernel
theorem dL_choices_444 : decode cL_choices 444 = .ok (.aload 6, 2) := by decide +kernel
theorem dL_choices_446 : decode cL_choices 446 = .ok (.aload 7, 2) := by decide +kernel
theorem dL_choices_448 : decode cL_choices 448 = .ok (.aload 8, 2) := by decide +kernel
theorem dL_choices_450 : decode cL_choices 450 = .ok (.iload 9, 2) := by decide +kernel
theorem dL_choices_452 : decode cL_choices 452 = .ok (.iload 10, 2) := by decide +kernel
theorem dL_choices_454 : decode cL_choices 454 = .ok (.invokestatic 140, 3) := by decide +kernel
theorem dL_choices_457 : decode cL_choices 457 = .ok (.istore 13, 2) := by decide +kernel
theorem dL_choices_459 : decode cL_choices 459 = .ok (.goto (-67), 3) := by decide +kernel
theorem dL_choices_462 : decode cL_choices 462 = .ok (.aload 6, 2) := by decide +kernel
theorem dL_choices_464 : decode cL_choices 464 = .ok (.aload 7, 2) := by decide +kernel
theorem dL_choices_466 : decode cL_choices 466 = .ok (.aload 8, 2) := by decide +kernel
theorem dL_choices_468 : decode cL_choices 468 = .ok (.iload 9, 2) := by decide +kernel
theorem dL_choices_470 : decode cL_choices 470 = .ok (.iload 10, 2) := by decide +kernel
theorem dL_choices_472 : decode cL_choices 472 = .ok (.invokestatic 128, 3) := by decide +kernel
theorem dL_choices_475 : decode cL_choices 475 = .ok (.aload_n 0, 1) := by decide +kernel
theorem dL_choices_476 : decode cL_choices 476 = .ok (.iload 9, 2) := by decide +kernel
theorem dL_choices_478 : decode cL_choices 478 = .ok (.iload 10, 2) := by decide +kernel
theorem dL_choices_480 : decode cL_choices 480 = .ok (.invokestatic 138, 3) := by decide +kernel
theorem dL_choices_483 : decode cL_choices 483 = .ok (.iload 11, 2) := by decide +kernel
theorem dL_choices_485 : decode cL_choices 485 = .ok (.if_icmp .ne 7, 3) := by decide +kernel
theorem dL_choices_488 : decode cL_choices 488 = .ok (.iconst 1, 1) := by decide +kernel
theorem dL_choices_489 : decode cL_choices 489 = .ok (.goto 4, 3) := by decide +kernel
theorem dL_choices_492 : decode cL_choices 492 = .ok (.iconst 0, 1) := by decide +kernel
theorem dL_choices_493 : decode cL_choices 493 = .ok (.ireturn, 1) := by decide +kernel
theorem dL_choices_494 : decode cL_choices 494 = .ok (.iconst 0, 1) := by decide +kernel
theorem dL_choices_495 : decode cL_choices 495 = .ok (.istore 13, 2) := by decide +kernel
theorem dL_choices_497 : decode cL_choices 497 = .ok (.iload 13, 2) := by decide +kernel
theorem dL_choices_499 : decode cL_choices 499 = .ok (.aload 8, 2) := by decide +kernel
theorem dL_choices_501 : decode cL_choices 501 = .ok (.iconst 4, 1) := by decide +kernel
theorem dL_choices_502 : decode cL_choices 502 = .ok (.iaload, 1) := by decide +kernel
theorem dL_choices_503 : decode cL_choices 503 = .ok (.if_icmp .ge 83, 3) := by decide +kernel
theorem dL_choices_506 : decode cL_choices 506 = .ok (.aload 7, 2) := by decide +kernel
theorem dL_choices_508 : decode cL_choices 508 = .ok (.aload 5, 2) := by decide +kernel
theorem dL_choices_510 : decode cL_choices 510 = .ok (.iload 13, 2) := by decide +kernel
theorem dL_choices_512 : decode cL_choices 512 = .ok (.iaload, 1) := by decide +kernel
theorem dL_choices_513 : decode cL_choices 513 = .ok (.bipush 10, 2) := by decide +kernel
theorem dL_choices_515 : decode cL_choices 515 = .ok (.idiv, 1) := by decide +kernel
theorem dL_choices_516 : decode cL_choices 516 = .ok (.iaload, 1) := by decide +kernel
theorem dL_choices_517 : decode cL_choices 517 = .ok (.ifCond .gt 63, 3) := by decide +kernel
theorem dL_choices_520 : decode cL_choices 520 = .ok (.aload_n 3, 1) := by decide +kernel
theorem dL_choices_521 : decode cL_choices 521 = .ok (.aload 4, 2) := by decide +kernel
theorem dL_choices_523 : decode cL_choices 523 = .ok (.aload 7, 2) := by decide +kernel
theorem dL_choices_525 : decode cL_choices 525 = .ok (.aload 8, 2) := by decide +kernel
theorem dL_choices_527 : decode cL_choices 527 = .ok (.aload 5, 2) := by decide +kernel
theorem dL_choices_529 : decode cL_choices 529 = .ok (.iload 13, 2) := by decide +kernel
theorem dL_choices_531 : decode cL_choices 531 = .ok (.iaload, 1) := by decide +kernel
theorem dL_choices_532 : decode cL_choices 532 = .ok (.bipush 10, 2) := by decide +kernel
theorem dL_choices_534 : decode cL_choices 534 = .ok (.idiv, 1) := by decide +kernel
theorem dL_choices_535 : decode cL_choices 535 = .ok (.aload 5, 2) := by decide +kernel
theorem dL_choices_537 : decode cL_choices 537 = .ok (.iload 13, 2) := by decide +kernel
theorem dL_choices_539 : decode cL_choices 539 = .ok (.iaload, 1) := by decide +kernel
theorem dL_choices_540 : decode cL_choices 540 = .ok (.bipush 10, 2) := by decide +kernel
theorem dL_choices_542 : decode cL_choices 542 = .ok (.irem, 1) := by decide +kernel
theorem dL_choices_543 : decode cL_choices 543 = .ok (.invokestatic 122, 3) := by decide +kernel
theorem dL_choices_546 : decode cL_choices 546 = .ok (.ifCond .ne 6, 3) := by decide +kernel
theorem dL_choices_549 : decode cL_choices 549 = .ok (.goto 31, 3) := by decide +kernel
theorem dL_choices_552 : decode cL_choices 552 = .ok (.aload 6, 2) := by decide +kernel
theorem dL_choices_554 : decode cL_choices 554 = .ok (.aload 7, 2) := by decide +kernel
theorem dL_choices_556 : decode cL_choices 556 = .ok (.aload 8, 2) := by decide +kernel
theorem dL_choices_558 : decode cL_choices 558 = .ok (.aload 5, 2) := by decide +kernel
theorem dL_choices_560 : decode cL_choices 560 = .ok (.iload 13, 2) := by decide +kernel
theorem dL_choices_562 : decode cL_choices 562 = .ok (.iaload, 1) := by decide +kernel
theorem dL_choices_563 : decode cL_choices 563 = .ok (.bipush 10, 2) := by decide +kernel
theorem dL_choices_565 : decode cL_choices 565 = .ok (.idiv, 1) := by decide +kernel
theorem dL_choices_566 : decode cL_choices 566 = .ok (.aload 5, 2) := by decide +kernel
theorem dL_choices_568 : decode cL_choices 568 = .ok (.iload 13, 2) := by decide +kernel
theorem dL_choices_570 : decode cL_choices 570 = .ok (.iaload, 1) := by decide +kernel
theorem dL_choices_571 : decode cL_choices 571 = .ok (.bipush 10, 2) := by decide +kernel
theorem dL_choices_573 : decode cL_choices 573 = .ok (.irem, 1) := by decide +kernel
theorem dL_choices_574 : decode cL_choices 574 = .ok (.invokestatic 128, 3) := by decide +kernel
theorem dL_choices_577 : decode cL_choices 577 = .ok (.iinc 11 1, 3) := by decide +kernel
theorem dL_choices_580 : decode cL_choices 580 = .ok (.iinc 13 1, 3) := by decide +kernel
theorem dL_choices_583 : decode cL_choices 583 = .ok (.goto (-86), 3) := by decide +kernel
theorem dL_choices_586 : decode cL_choices 586 = .ok (.aload_n 0, 1) := by decide +kernel
theorem dL_choices_587 : decode cL_choices 587 = .ok (.invokevirtual 144, 3) := by decide +kernel
theorem dL_choices_590 : decode cL_choices 590 = .ok (.iload 11, 2) := by decide +kernel
theorem dL_choices_592 : decode cL_choices 592 = .ok (.if_icmp .ne 7, 3) := by decide +kernel
theorem dL_choices_595 : decode cL_choices 595 = .ok (.iconst 1, 1) := by decide +kernel
theorem dL_choices_596 : decode cL_choices 596 = .ok (.goto 4, 3) := by decide +kernel
theorem dL_choices_599 : decode cL_choices 599 = .ok (.iconst 0, 1) := by decide +kernel
theorem dL_choices_600 : decode cL_choices 600 = .ok (.ireturn, 1) := by decide +kernel
theorem dL_choices_601 : decode cL_choices 601 = .ok (.aload_n 3, 1) := by decide +kernel
theorem dL_choices_602 : decode cL_choices 602 = .ok (.aload 4, 2) := by decide +kernel
theorem dL_choices_604 : decode cL_choices 604 = .ok (.aload 7, 2) := by decide +kernel
theorem dL_choices_606 : decode cL_choices 606 = .ok (.aload 8, 2) := by decide +kernel
theorem dL_choices_608 : decode cL_choices 608 = .ok (.aload 8, 2) := by decide +kernel
theorem dL_choices_610 : decode cL_choices 610 = .ok (.iconst 2, 1) := by decide +kernel
theorem dL_choices_611 : decode cL_choices 611 = .ok (.iaload, 1) := by decide +kernel
theorem dL_choices_612 : decode cL_choices 612 = .ok (.bipush 63, 2) := by decide +kernel
theorem dL_choices_614 : decode cL_choices 614 = .ok (.iconst (-1), 1) := by decide +kernel
theorem dL_choices_615 : decode cL_choices 615 = .ok (.iconst 0, 1) := by decide +kernel
theorem dL_choices_616 : decode cL_choices 616 = .ok (.iconst 0, 1) := by decide +kernel
theorem dL_choices_617 : decode cL_choices 617 = .ok (.invokestatic 81, 3) := by decide +kernel
theorem dL_choices_620 : decode cL_choices 620 = .ok (.istore 13, 2) := by decide +kernel
theorem dL_choices_622 : decode cL_choices 622 = .ok (.iconst 0, 1) := by decide +kernel
theorem dL_choices_623 : decode cL_choices 623 = .ok (.istore 14, 2) := by decide +kernel
theorem dL_choices_625 : decode cL_choices 625 = .ok (.iload 14, 2) := by decide +kernel
theorem dL_choices_627 : decode cL_choices 627 = .ok (.aload 8, 2) := by decide +kernel
theorem dL_choices_629 : decode cL_choices 629 = .ok (.iconst 0, 1) := by decide +kernel
theorem dL_choices_630 : decode cL_choices 630 = .ok (.iaload, 1) := by decide +kernel
theorem dL_choices_631 : decode cL_choices 631 = .ok (.if_icmp .ge 44, 3) := by decide +kernel
theorem dL_choices_634 : decode cL_choices 634 = .ok (.aload 7, 2) := by decide +kernel
theorem dL_choices_636 : decode cL_choices 636 = .ok (.iload 14, 2) := by decide +kernel
theorem dL_choices_638 : decode cL_choices 638 = .ok (.iaload, 1) := by decide +kernel
theorem dL_choices_639 : decode cL_choices 639 = .ok (.ifCond .le 6, 3) := by decide +kernel
theorem dL_choices_642 : decode cL_choices 642 = .ok (.goto 27, 3) := by decide +kernel
theorem dL_choices_645 : decode cL_choices 645 = .ok (.aload 6, 2) := by decide +kernel
theorem dL_choices_647 : decode cL_choices 647 = .ok (.aload 7, 2) := by decide +kernel
theorem dL_choices_649 : decode cL_choices 649 = .ok (.aload 8, 2) := by decide +kernel
theorem dL_choices_651 : decode cL_choices 651 = .ok (.iload 14, 2) := by decide +kernel
theorem dL_choices_653 : decode cL_choices 653 = .ok (.aload_n 3, 1) := by decide +kernel
theorem dL_choices_654 : decode cL_choices 654 = .ok (.aload 8, 2) := by decide +kernel
theorem dL_choices_656 : decode cL_choices 656 = .ok (.iload 13, 2) := by decide +kernel
theorem dL_choices_658 : decode cL_choices 658 = .ok (.iload 14, 2) := by decide +kernel
theorem dL_choices_660 : decode cL_choices 660 = .ok (.invokestatic 64, 3) := by decide +kernel
theorem dL_choices_663 : decode cL_choices 663 = .ok (.invokestatic 128, 3) := by decide +kernel
theorem dL_choices_666 : decode cL_choices 666 = .ok (.iinc 11 1, 3) := by decide +kernel
theorem dL_choices_669 : decode cL_choices 669 = .ok (.iinc 14 1, 3) := by decide +kernel
theorem dL_choices_672 : decode cL_choices 672 = .ok (.goto (-47), 3) := by decide +kernel
theorem dL_choices_675 : decode cL_choices 675 = .ok (.aload_n 0, 1) := by decide +kernel
theorem dL_choices_676 : decode cL_choices 676 = .ok (.invokevirtual 147, 3) := by decide +kernel
theorem dL_choices_679 : decode cL_choices 679 = .ok (.iload 11, 2) := by decide +kernel
theorem dL_choices_681 : decode cL_choices 681 = .ok (.if_icmp .ne 14, 3) := by decide +kernel
theorem dL_choices_684 : decode cL_choices 684 = .ok (.aload_n 0, 1) := by decide +kernel
theorem dL_choices_685 : decode cL_choices 685 = .ok (.invokevirtual 147, 3) := by decide +kernel
theorem dL_choices_688 : decode cL_choices 688 = .ok (.ifCond .ne 7, 3) := by decide +kernel
theorem dL_choices_691 : decode cL_choices 691 = .ok (.iconst 1, 1) := by decide +kernel
theorem dL_choices_692 : decode cL_choices 692 = .ok (.goto 4, 3) := by decide +kernel
theorem dL_choices_695 : decode cL_choices 695 = .ok (.iconst 0, 1) := by decide +kernel
theorem dL_choices_696 : decode cL_choices 696 = .ok (.ireturn, 1) := by decide +kernel
theorem dL_choices_697 : decode cL_choices 697 = .ok (.aload 8, 2) := by decide +kernel
theorem dL_choices_699 : decode cL_choices 699 = .ok (.iconst 5, 1) := by decide +kernel
theorem dL_choices_700 : decode cL_choices 700 = .ok (.iaload, 1) := by decide +kernel
theorem dL_choices_701 : decode cL_choices 701 = .ok (.istore 11, 2) := by decide +kernel
theorem dL_choices_703 : decode cL_choices 703 = .ok (.aload 8, 2) := by decide +kernel
theorem dL_choices_705 : decode cL_choices 705 = .ok (.iconst 5, 1) := by decide +kernel
theorem dL_choices_706 : decode cL_choices 706 = .ok (.iconst 0, 1) := by decide +kernel
theorem dL_choices_707 : decode cL_choices 707 = .ok (.iastore, 1) := by decide +kernel
theorem dL_choices_708 : decode cL_choices 708 = .ok (.iconst 0, 1) := by decide +kernel
theorem dL_choices_709 : decode cL_choices 709 = .ok (.istore 14, 2) := by decide +kernel
theorem dL_choices_711 : decode cL_choices 711 = .ok (.iload 14, 2) := by decide +kernel
theorem dL_choices_713 : decode cL_choices 713 = .ok (.aload 8, 2) := by decide +kernel
theorem dL_choices_715 : decode cL_choices 715 = .ok (.iconst 0, 1) := by decide +kernel
theorem dL_choices_716 : decode cL_choices 716 = .ok (.iaload, 1) := by decide +kernel
theorem dL_choices_717 : decode cL_choices 717 = .ok (.if_icmp .ge 15, 3) := by decide +kernel
theorem dL_choices_720 : decode cL_choices 720 = .ok (.aload 7, 2) := by decide +kernel
theorem dL_choices_722 : decode cL_choices 722 = .ok (.iload 14, 2) := by decide +kernel
theorem dL_choices_724 : decode cL_choices 724 = .ok (.iconst 0, 1) := by decide +kernel
theorem dL_choices_725 : decode cL_choices 725 = .ok (.iastore, 1) := by decide +kernel
theorem dL_choices_726 : decode cL_choices 726 = .ok (.iinc 14 1, 3) := by decide +kernel
theorem dL_choices_729 : decode cL_choices 729 = .ok (.goto (-18), 3) := by decide +kernel
theorem dL_choices_732 : decode cL_choices 732 = .ok (.aload_n 0, 1) := by decide +kernel
theorem dL_choices_733 : decode cL_choices 733 = .ok (.invokevirtual 150, 3) := by decide +kernel
theorem dL_choices_736 : decode cL_choices 736 = .ok (.iload 11, 2) := by decide +kernel
theorem dL_choices_738 : decode cL_choices 738 = .ok (.if_icmp .ne 7, 3) := by decide +kernel
theorem dL_choices_741 : decode cL_choices 741 = .ok (.iconst 1, 1) := by decide +kernel
theorem dL_choices_742 : decode cL_choices 742 = .ok (.goto 4, 3) := by decide +kernel
theorem dL_choices_745 : decode cL_choices 745 = .ok (.iconst 0, 1) := by decide +kernel
theorem dL_choices_746 : decode cL_choices 746 = .ok (.ireturn, 1) := by decide +kernel
theorem dL_isTold_0 : decode cL_isTold 0 = .ok (.iconst 0, 1) := by decide +kernel
theorem dL_isTold_1 : decode cL_isTold 1 = .ok (.istore 10, 2) := by decide +kernel
theorem dL_isTold_3 : decode cL_isTold 3 = .ok (.iload 10, 2) := by decide +kernel
theorem dL_isTold_5 : decode cL_isTold 5 = .ok (.aload 8, 2) := by decide +kernel
theorem dL_isTold_7 : decode cL_isTold 7 = .ok (.iconst 5, 1) := by decide +kernel
theorem dL_isTold_8 : decode cL_isTold 8 = .ok (.iaload, 1) := by decide +kernel
theorem dL_isTold_9 : decode cL_isTold 9 = .ok (.if_icmp .ge 25, 3) := by decide +kernel
theorem dL_isTold_12 : decode cL_isTold 12 = .ok (.aload_n 0, 1) := by decide +kernel
theorem dL_isTold_13 : decode cL_isTold 13 = .ok (.iload 10, 2) := by decide +kernel
theorem dL_isTold_15 : decode cL_isTold 15 = .ok (.invokevirtual 153, 3) := by decide +kernel
theorem dL_isTold_18 : decode cL_isTold 18 = .ok (.aload 6, 2) := by decide +kernel
theorem dL_isTold_20 : decode cL_isTold 20 = .ok (.iload 10, 2) := by decide +kernel
theorem dL_isTold_22 : decode cL_isTold 22 = .ok (.iaload, 1) := by decide +kernel
theorem dL_isTold_23 : decode cL_isTold 23 = .ok (.if_icmp .eq 5, 3) := by decide +kernel
theorem dL_isTold_26 : decode cL_isTold 26 = .ok (.iconst 0, 1) := by decide +kernel
theorem dL_isTold_27 : decode cL_isTold 27 = .ok (.ireturn, 1) := by decide +kernel
theorem dL_isTold_28 : decode cL_isTold 28 = .ok (.iinc 10 1, 3) := by decide +kernel
theorem dL_isTold_31 : decode cL_isTold 31 = .ok (.goto (-28), 3) := by decide +kernel
theorem dL_isTold_34 : decode cL_isTold 34 = .ok (.iconst 0, 1) := by decide +kernel
theorem dL_isTold_35 : decode cL_isTold 35 = .ok (.istore 10, 2) := by decide +kernel
theorem dL_isTold_37 : decode cL_isTold 37 = .ok (.iload 10, 2) := by decide +kernel
theorem dL_isTold_39 : decode cL_isTold 39 = .ok (.aload 8, 2) := by decide +kernel
theorem dL_isTold_41 : decode cL_isTold 41 = .ok (.iconst 1, 1) := by decide +kernel
theorem dL_isTold_42 : decode cL_isTold 42 = .ok (.iaload, 1) := by decide +kernel
theorem dL_isTold_43 : decode cL_isTold 43 = .ok (.if_icmp .ge 38, 3) := by decide +kernel
theorem dL_isTold_46 : decode cL_isTold 46 = .ok (.aload_n 0, 1) := by decide +kernel
theorem dL_isTold_47 : decode cL_isTold 47 = .ok (.iload 10, 2) := by decide +kernel
theorem dL_isTold_49 : decode cL_isTold 49 = .ok (.invokevirtual 156, 3) := by decide +kernel
theorem dL_isTold_52 : decode cL_isTold 52 = .ok (.aload 8, 2) := by decide +kernel
theorem dL_isTold_54 : decode cL_isTold 54 = .ok (.iconst 2, 1) := by decide +kernel
theorem dL_isTold_55 : decode cL_isTold 55 = .ok (.iaload, 1) := by decide +kernel
theorem dL_isTold_56 : decode cL_isTold 56 = .ok (.iload 10, 2) := by decide +kernel
theorem dL_isTold_58 : decode cL_isTold 58 = .ok (.ishr, 1) := by decide +kernel
theorem dL_isTold_59 : decode cL_isTold 59 = .ok (.iconst 1, 1) := by decide +kernel
theorem dL_isTold_60 : decode cL_isTold 60 = .ok (.iand, 1) := by decide +kernel
theorem dL_isTold_61 : decode cL_isTold 61 = .ok (.iconst 1, 1) := by decide +kernel
theorem dL_isTold_62 : decode cL_isTold 62 = .ok (.if_icmp .ne 7, 3) := by decide +kernel
theorem dL_isTold_65 : decode cL_isTold 65 = .ok (.iconst 1, 1) := by decide +kernel
theorem dL_isTold_66 : decode cL_isTold 66 = .ok (.goto 4, 3) := by decide +kernel
theorem dL_isTold_69 : decode cL_isTold 69 = .ok (.iconst 0, 1) := by decide +kernel
theorem dL_isTold_70 : decode cL_isTold 70 = .ok (.if_icmp .eq 5, 3) := by decide +kernel
theorem dL_isTold_73 : decode cL_isTold 73 = .ok (.iconst 0, 1) := by decide +kernel
theorem dL_isTold_74 : decode cL_isTold 74 = .ok (.ireturn, 1) := by decide +kernel
theorem dL_isTold_75 : decode cL_isTold 75 = .ok (.iinc 10 1, 3) := by decide +kernel
theorem dL_isTold_78 : decode cL_isTold 78 = .ok (.goto (-41), 3) := by decide +kernel
theorem dL_isTold_81 : decode cL_isTold 81 = .ok (.iconst 0, 1) := by decide +kernel
theorem dL_isTold_82 : decode cL_isTold 82 = .ok (.istore 10, 2) := by decide +kernel
theorem dL_isTold_84 : decode cL_isTold 84 = .ok (.iconst (-1), 1) := by decide +kernel
theorem dL_isTold_85 : decode cL_isTold 85 = .ok (.istore 11, 2) := by decide +kernel
theorem dL_isTold_87 : decode cL_isTold 87 = .ok (.iconst 0, 1) := by decide +kernel
theorem dL_isTold_88 : decode cL_isTold 88 = .ok (.istore 12, 2) := by decide +kernel
theorem dL_isTold_90 : decode cL_isTold 90 = .ok (.iconst 0, 1) := by decide +kernel
theorem dL_isTold_91 : decode cL_isTold 91 = .ok (.istore 13, 2) := by decide +kernel
theorem dL_isTold_93 : decode cL_isTold 93 = .ok (.iconst 0, 1) := by decide +kernel
theorem dL_isTold_94 : decode cL_isTold 94 = .ok (.istore 14, 2) := by decide +kernel
theorem dL_isTold_96 : decode cL_isTold 96 = .ok (.aload_n 2, 1) := by decide +kernel
theorem dL_isTold_97 : decode cL_isTold 97 = .ok (.aload_n 3, 1) := by decide +kernel
theorem dL_isTold_98 : decode cL_isTold 98 = .ok (.aload 7, 2) := by decide +kernel
theorem dL_isTold_100 : decode cL_isTold 100 = .ok (.aload 8, 2) := by decide +kernel
theorem dL_isTold_102 : decode cL_isTold 102 = .ok (.aload 8, 2) := by decide +kernel
theorem dL_isTold_104 : decode cL_isTold 104 = .ok (.iconst 2, 1) := by decide +kernel
theorem dL_isTold_105 : decode cL_isTold 105 = .ok (.iaload, 1) := by decide +kernel
theorem dL_isTold_106 : decode cL_isTold 106 = .ok (.bipush 63, 2) := by decide +kernel
theorem dL_isTold_108 : decode cL_isTold 108 = .ok (.iconst (-1), 1) := by decide +kernel
theorem dL_isTold_109 : decode cL_isTold 109 = .ok (.iconst 0, 1) := by decide +kernel
theorem dL_isTold_110 : decode cL_isTold 110 = .ok (.iconst 0, 1) := by decide +kernel
theorem dL_isTold_111 : decode cL_isTold 111 = .ok (.invokestatic 81, 3) := by decide +kernel
theorem dL_isTold_114 : decode cL_isTold 114 = .ok (.istore 15, 2) := by decide +kernel
theorem dL_isTold_116 : decode cL_isTold 116 = .ok (.iload 15, 2) := by decide +kernel
theorem dL_isTold_118 : decode cL_isTold 118 = .ok (.ifCond .lt 108, 3) := by decide +kernel
theorem dL_isTold_121 : decode cL_isTold 121 = .ok (.aload_n 2, 1) := by decide +kernel
theorem dL_isTold_122 : decode cL_isTold 122 = .ok (.aload 5, 2) := by decide +kernel
theorem dL_isTold_124 : decode cL_isTold 124 = .ok (.aload 4, 2) := by decide +kernel
theorem dL_isTold_126 : decode cL_isTold 126 = .ok (.aload 8, 2) := by decide +kernel
theorem dL_isTold_128 : decode cL_isTold 128 = .ok (.iload 15, 2) := by decide +kernel
theorem dL_isTold_130 : decode cL_isTold 130 = .ok (.invokestatic 160, 3) := by decide +kernel
theorem dL_isTold_133 : decode cL_isTold 133 = .ok (.istore 16, 2) := by decide +kernel
theorem dL_isTold_135 : decode cL_isTold 135 = .ok (.iload 10, 2) := by decide +kernel
theorem dL_isTold_137 : decode cL_isTold 137 = .ok (.ifCond .eq 10, 3) := by decide +kernel
theorem dL_isTold_140 : decode cL_isTold 140 = .ok (.iload 16, 2) := by decide +kernel
theorem dL_isTold_142 : decode cL_isTold 142 = .ok (.iload 13, 2) := by decide +kernel
theorem dL_isTold_144 : decode cL_isTold 144 = .ok (.if_icmp .ge 7, 3) := by decide +kernel
theorem dL_isTold_147 : decode cL_isTold 147 = .ok (.iload 15, 2) := by decide +kernel
theorem dL_isTold_149 : decode cL_isTold 149 = .ok (.istore 11, 2) := by decide +kernel
theorem dL_isTold_151 : decode cL_isTold 151 = .ok (.iload 10, 2) := by decide +kernel
theorem dL_isTold_153 : decode cL_isTold 153 = .ok (.ifCond .eq 10, 3) := by decide +kernel
theorem dL_isTold_156 : decode cL_isTold 156 = .ok (.iload 16, 2) := by decide +kernel
theorem dL_isTold_158 : decode cL_isTold 158 = .ok (.iload 13, 2) := by decide +kernel
theorem dL_isTold_160 : decode cL_isTold 160 = .ok (.if_icmp .ge 8, 3) := by decide +kernel
theorem dL_isTold_163 : decode cL_isTold 163 = .ok (.iload 16, 2) := by decide +kernel
theorem dL_isTold_165 : decode cL_isTold 165 = .ok (.goto 5, 3) := by decide +kernel
theorem dL_isTold_168 : decode cL_isTold 168 = .ok (.iload 13, 2) := by decide +kernel
theorem dL_isTold_170 : decode cL_isTold 170 = .ok (.istore 13, 2) := by decide +kernel
theorem dL_isTold_172 : decode cL_isTold 172 = .ok (.iload 10, 2) := by decide +kernel
theorem dL_isTold_174 : decode cL_isTold 174 = .ok (.ifCond .eq 10, 3) := by decide +kernel
theorem dL_isTold_177 : decode cL_isTold 177 = .ok (.iload 16, 2) := by decide +kernel
theorem dL_isTold_179 : decode cL_isTold 179 = .ok (.iload 12, 2) := by decide +kernel
theorem dL_isTold_181 : decode cL_isTold 181 = .ok (.if_icmp .le 8, 3) := by decide +kernel
theorem dL_isTold_184 : decode cL_isTold 184 = .ok (.iload 16, 2) := by decide +kernel
theorem dL_isTold_186 : decode cL_isTold 186 = .ok (.goto 5, 3) := by decide +kernel
theorem dL_isTold_189 : decode cL_isTold 189 = .ok (.iload 12, 2) := by decide +kernel
theorem dL_isTold_191 : decode cL_isTold 191 = .ok (.istore 12, 2) := by decide +kernel
theorem dL_isTold_193 : decode cL_isTold 193 = .ok (.iload 15, 2) := by decide +kernel
theorem dL_isTold_195 : decode cL_isTold 195 = .ok (.istore 14, 2) := by decide +kernel
theorem dL_isTold_197 : decode cL_isTold 197 = .ok (.iinc 10 1, 3) := by decide +kernel
theorem dL_isTold_200 : decode cL_isTold 200 = .ok (.aload_n 2, 1) := by decide +kernel
theorem dL_isTold_201 : decode cL_isTold 201 = .ok (.aload_n 3, 1) := by decide +kernel
theorem dL_isTold_202 : decode cL_isTold 202 = .ok (.aload 7, 2) := by decide +kernel
theorem dL_isTold_204 : decode cL_isTold 204 = .ok (.aload 8, 2) := by decide +kernel
theorem dL_isTold_206 : decode cL_isTold 206 = .ok (.aload 8, 2) := by decide +kernel
theorem dL_isTold_208 : decode cL_isTold 208 = .ok (.iconst 2, 1) := by decide +kernel
theorem dL_isTold_209 : decode cL_isTold 209 = .ok (.iaload, 1) := by decide +kernel
theorem dL_isTold_210 : decode cL_isTold 210 = .ok (.bipush 63, 2) := by decide +kernel
theorem dL_isTold_212 : decode cL_isTold 212 = .ok (.iconst (-1), 1) := by decide +kernel
theorem dL_isTold_213 : decode cL_isTold 213 = .ok (.iconst 0, 1) := by decide +kernel
theorem dL_isTold_214 : decode cL_isTold 214 = .ok (.iload 15, 2) := by decide +kernel
theorem dL_isTold_216 : decode cL_isTold 216 = .ok (.iconst 1, 1) := by decide +kernel
theorem dL_isTold_217 : decode cL_isTold 217 = .ok (.iadd, 1) := by decide +kernel
theorem dL_isTold_218 : decode cL_isTold 218 = .ok (.invokestatic 81, 3) := by decide +kernel
theorem dL_isTold_221 : decode cL_isTold 221 = .ok (.istore 15, 2) := by decide +kernel
theorem dL_isTold_223 : decode cL_isTold 223 = .ok (.goto (-107), 3) := by decide +kernel
theorem dL_isTold_226 : decode cL_isTold 226 = .ok (.aload_n 0, 1) := by decide +kernel
theorem dL_isTold_227 : decode cL_isTold 227 = .ok (.invokevirtual 164, 3) := by decide +kernel
theorem dL_isTold_230 : decode cL_isTold 230 = .ok (.aload 8, 2) := by decide +kernel
theorem dL_isTold_232 : decode cL_isTold 232 = .ok (.iconst 0, 1) := by decide +kernel
theorem dL_isTold_233 : decode cL_isTold 233 = .ok (.iaload, 1) := by decide +kernel
theorem dL_isTold_234 : decode cL_isTold 234 = .ok (.if_icmp .ne 146, 3) := by decide +kernel
theorem dL_isTold_237 : decode cL_isTold 237 = .ok (.aload_n 0, 1) := by decide +kernel
theorem dL_isTold_238 : decode cL_isTold 238 = .ok (.invokevirtual 167, 3) := by decide +kernel
theorem dL_isTold_241 : decode cL_isTold 241 = .ok (.aload 8, 2) := by decide +kernel
theorem dL_isTold_243 : decode cL_isTold 243 = .ok (.iconst 1, 1) := by decide +kernel
theorem dL_isTold_244 : decode cL_isTold 244 = .ok (.iaload, 1) := by decide +kernel
theorem dL_isTold_245 : decode cL_isTold 245 = .ok (.if_icmp .ne 135, 3) := by decide +kernel
theorem dL_isTold_248 : decode cL_isTold 248 = .ok (.aload_n 0, 1) := by decide +kernel
theorem dL_isTold_249 : decode cL_isTold 249 = .ok (.invokevirtual 170, 3) := by decide +kernel
theorem dL_isTold_252 : decode cL_isTold 252 = .ok (.aload 8, 2) := by decide +kernel
theorem dL_isTold_254 : decode cL_isTold 254 = .ok (.iconst 5, 1) := by decide +kernel
theorem dL_isTold_255 : decode cL_isTold 255 = .ok (.iaload, 1) := by decide +kernel
theorem dL_isTold_256 : decode cL_isTold 256 = .ok (.if_icmp .ne 124, 3) := by decide +kernel
theorem dL_isTold_259 : decode cL_isTold 259 = .ok (.aload_n 0, 1) := by decide +kernel
theorem dL_isTold_260 : decode cL_isTold 260 = .ok (.invokevirtual 173, 3) := by decide +kernel
theorem dL_isTold_263 : decode cL_isTold 263 = .ok (.iload 10, 2) := by decide +kernel
theorem dL_isTold_265 : decode cL_isTold 265 = .ok (.if_icmp .ne 115, 3) := by decide +kernel
theorem dL_isTold_268 : decode cL_isTold 268 = .ok (.aload_n 0, 1) := by decide +kernel
theorem dL_isTold_269 : decode cL_isTold 269 = .ok (.invokevirtual 176, 3) := by decide +kernel
theorem dL_isTold_272 : decode cL_isTold 272 = .ok (.iload 10, 2) := by decide +kernel
theorem dL_isTold_274 : decode cL_isTold 274 = .ok (.if_icmp .ne 106, 3) := by decide +kernel
theorem dL_isTold_277 : decode cL_isTold 277 = .ok (.iload 10, 2) := by decide +kernel
theorem dL_isTold_279 : decode cL_isTold 279 = .ok (.iconst 1, 1) := by decide +kernel
theorem dL_isTold_280 : decode cL_isTold 280 = .ok (.if_icmp .lt 100, 3) := by decide +kernel
theorem dL_isTold_283 : decode cL_isTold 283 = .ok (.aload_n 0, 1) := by decide +kernel
theorem dL_isTold_284 : decode cL_isTold 284 = .ok (.invokevirtual 179, 3) := by decide +kernel
theorem dL_isTold_287 : decode cL_isTold 287 = .ok (.iload 13, 2) := by decide +kernel
theorem dL_isTold_289 : decode cL_isTold 289 = .ok (.if_icmp .ne 91, 3) := by decide +kernel
theorem dL_isTold_292 : decode cL_isTold 292 = .ok (.aload_n 0, 1) := by decide +kernel
theorem dL_isTold_293 : decode cL_isTold 293 = .ok (.invokevirtual 182, 3) := by decide +kernel
theorem dL_isTold_296 : decode cL_isTold 296 = .ok (.iload 12, 2) := by decide +kernel
theorem dL_isTold_298 : decode cL_isTold 298 = .ok (.if_icmp .ne 82, 3) := by decide +kernel
theorem dL_isTold_301 : decode cL_isTold 301 = .ok (.aload_n 0, 1) := by decide +kernel
theorem dL_isTold_302 : decode cL_isTold 302 = .ok (.invokestatic 185, 3) := by decide +kernel
theorem dL_isTold_305 : decode cL_isTold 305 = .ok (.aload 8, 2) := by decide +kernel
theorem dL_isTold_307 : decode cL_isTold 307 = .ok (.iconst 5, 1) := by decide +kernel
theorem dL_isTold_308 : decode cL_isTold 308 = .ok (.iaload, 1) := by decide +kernel
theorem dL_isTold_309 : decode cL_isTold 309 = .ok (.aload 8, 2) := by decide +kernel
theorem dL_isTold_311 : decode cL_isTold 311 = .ok (.iconst 0, 1) := by decide +kernel
theorem dL_isTold_312 : decode cL_isTold 312 = .ok (.iaload, 1) := by decide +kernel
theorem dL_isTold_313 : decode cL_isTold 313 = .ok (.if_icmp .ge 9, 3) := by decide +kernel
theorem dL_isTold_316 : decode cL_isTold 316 = .ok (.sipush (-9999), 3) := by decide +kernel
theorem dL_isTold_319 : decode cL_isTold 319 = .ok (.goto 15, 3) := by decide +kernel
theorem dL_isTold_322 : decode cL_isTold 322 = .ok (.aload_n 2, 1) := by decide +kernel
theorem dL_isTold_323 : decode cL_isTold 323 = .ok (.aload 5, 2) := by decide +kernel
theorem dL_isTold_325 : decode cL_isTold 325 = .ok (.aload 4, 2) := by decide +kernel
theorem dL_isTold_327 : decode cL_isTold 327 = .ok (.aload 8, 2) := by decide +kernel
theorem dL_isTold_329 : decode cL_isTold 329 = .ok (.iload 14, 2) := by decide +kernel
theorem dL_isTold_331 : decode cL_isTold 331 = .ok (.invokestatic 160, 3) := by decide +kernel
theorem dL_isTold_334 : decode cL_isTold 334 = .ok (.if_icmp .ne 46, 3) := by decide +kernel
theorem dL_isTold_337 : decode cL_isTold 337 = .ok (.aload_n 0, 1) := by decide +kernel
theorem dL_isTold_338 : decode cL_isTold 338 = .ok (.invokevirtual 188, 3) := by decide +kernel
theorem dL_isTold_341 : decode cL_isTold 341 = .ok (.aload_n 2, 1) := by decide +kernel
theorem dL_isTold_342 : decode cL_isTold 342 = .ok (.aload_n 3, 1) := by decide +kernel
theorem dL_isTold_343 : decode cL_isTold 343 = .ok (.aload 7, 2) := by decide +kernel
theorem dL_isTold_345 : decode cL_isTold 345 = .ok (.aload 8, 2) := by decide +kernel
theorem dL_isTold_347 : decode cL_isTold 347 = .ok (.aload 9, 2) := by decide +kernel
theorem dL_isTold_349 : decode cL_isTold 349 = .ok (.invokestatic 191, 3) := by decide +kernel
theorem dL_isTold_352 : decode cL_isTold 352 = .ok (.if_icmp .ne 28, 3) := by decide +kernel
theorem dL_isTold_355 : decode cL_isTold 355 = .ok (.aload_n 0, 1) := by decide +kernel
theorem dL_isTold_356 : decode cL_isTold 356 = .ok (.aload 8, 2) := by decide +kernel
theorem dL_isTold_358 : decode cL_isTold 358 = .ok (.iconst 0, 1) := by decide +kernel
theorem dL_isTold_359 : decode cL_isTold 359 = .ok (.iaload, 1) := by decide +kernel
theorem dL_isTold_360 : decode cL_isTold 360 = .ok (.invokestatic 194, 3) := by decide +kernel
theorem dL_isTold_363 : decode cL_isTold 363 = .ok (.sipush (-7001), 3) := by decide +kernel
theorem dL_isTold_366 : decode cL_isTold 366 = .ok (.if_icmp .ne 14, 3) := by decide +kernel
theorem dL_isTold_369 : decode cL_isTold 369 = .ok (.aload_n 0, 1) := by decide +kernel
theorem dL_isTold_370 : decode cL_isTold 370 = .ok (.iconst (-1), 1) := by decide +kernel
theorem dL_isTold_371 : decode cL_isTold 371 = .ok (.invokestatic 194, 3) := by decide +kernel
theorem dL_isTold_374 : decode cL_isTold 374 = .ok (.sipush (-7001), 3) := by decide +kernel
theorem dL_isTold_377 : decode cL_isTold 377 = .ok (.if_icmp .eq 5, 3) := by decide +kernel
theorem dL_isTold_380 : decode cL_isTold 380 = .ok (.iconst 0, 1) := by decide +kernel
theorem dL_isTold_381 : decode cL_isTold 381 = .ok (.ireturn, 1) := by decide +kernel
theorem dL_isTold_382 : decode cL_isTold 382 = .ok (.aload 8, 2) := by decide +kernel
theorem dL_isTold_384 : decode cL_isTold 384 = .ok (.iconst 0, 1) := by decide +kernel
theorem dL_isTold_385 : decode cL_isTold 385 = .ok (.iaload, 1) := by decide +kernel
theorem dL_isTold_386 : decode cL_isTold 386 = .ok (.ifCond .ne 5, 3) := by decide +kernel
theorem dL_isTold_389 : decode cL_isTold 389 = .ok (.iconst 1, 1) := by decide +kernel
theorem dL_isTold_390 : decode cL_isTold 390 = .ok (.ireturn, 1) := by decide +kernel
theorem dL_isTold_391 : decode cL_isTold 391 = .ok (.aload_n 2, 1) := by decide +kernel
theorem dL_isTold_392 : decode cL_isTold 392 = .ok (.aload_n 3, 1) := by decide +kernel
theorem dL_isTold_393 : decode cL_isTold 393 = .ok (.aload 7, 2) := by decide +kernel
theorem dL_isTold_395 : decode cL_isTold 395 = .ok (.aload 8, 2) := by decide +kernel
theorem dL_isTold_397 : decode cL_isTold 397 = .ok (.invokestatic 196, 3) := by decide +kernel
theorem dL_isTold_400 : decode cL_isTold 400 = .ok (.istore 15, 2) := by decide +kernel
theorem dL_isTold_402 : decode cL_isTold 402 = .ok (.iconst 0, 1) := by decide +kernel
theorem dL_isTold_403 : decode cL_isTold 403 = .ok (.istore 16, 2) := by decide +kernel
theorem dL_isTold_405 : decode cL_isTold 405 = .ok (.iload 16, 2) := by decide +kernel
theorem dL_isTold_407 : decode cL_isTold 407 = .ok (.aload 8, 2) := by decide +kernel
theorem dL_isTold_409 : decode cL_isTold 409 = .ok (.iconst 0, 1) := by decide +kernel
theorem dL_isTold_410 : decode cL_isTold 410 = .ok (.iaload, 1) := by decide +kernel
theorem dL_isTold_411 : decode cL_isTold 411 = .ok (.if_icmp .ge 78, 3) := by decide +kernel
theorem dL_isTold_414 : decode cL_isTold 414 = .ok (.aload_n 0, 1) := by decide +kernel
theorem dL_isTold_415 : decode cL_isTold 415 = .ok (.iload 16, 2) := by decide +kernel
theorem dL_isTold_417 : decode cL_isTold 417 = .ok (.invokevirtual 200, 3) := by decide +kernel
theorem dL_isTold_420 : decode cL_isTold 420 = .ok (.aload_n 2, 1) := by decide +kernel
theorem dL_isTold_421 : decode cL_isTold 421 = .ok (.iload 16, 2) := by decide +kernel
theorem dL_isTold_423 : decode cL_isTold 423 = .ok (.iaload, 1) := by decide +kernel
theorem dL_isTold_424 : decode cL_isTold 424 = .ok (.if_icmp .ne 57, 3) := by decide +kernel
theorem dL_isTold_427 : decode cL_isTold 427 = .ok (.aload_n 0, 1) := by decide +kernel
theorem dL_isTold_428 : decode cL_isTold 428 = .ok (.iload 16, 2) := by decide +kernel
theorem dL_isTold_430 : decode cL_isTold 430 = .ok (.invokevirtual 203, 3) := by decide +kernel
theorem dL_isTold_433 : decode cL_isTold 433 = .ok (.aload 7, 2) := by decide +kernel
theorem dL_isTold_435 : decode cL_isTold 435 = .ok (.iload 16, 2) := by decide +kernel
theorem dL_isTold_437 : decode cL_isTold 437 = .ok (.iaload, 1) := by decide +kernel
theorem dL_isTold_438 : decode cL_isTold 438 = .ok (.iconst 1, 1) := by decide +kernel
theorem dL_isTold_439 : decode cL_isTold 439 = .ok (.isub, 1) := by decide +kernel
theorem dL_isTold_440 : decode cL_isTold 440 = .ok (.if_icmp .ne 41, 3) := by decide +kernel
theorem dL_isTold_443 : decode cL_isTold 443 = .ok (.aload_n 0, 1) := by decide +kernel
theorem dL_isTold_444 : decode cL_isTold 444 = .ok (.iload 16, 2) := by decide +kernel
theorem dL_isTold_446 : decode cL_isTold 446 = .ok (.invokevirtual 206, 3) := by decide +kernel
theorem dL_isTold_449 : decode cL_isTold 449 = .ok (.iload 15, 2) := by decide +kernel
theorem dL_isTold_451 : decode cL_isTold 451 = .ok (.iconst 5, 1) := by decide +kernel
theorem dL_isTold_452 : decode cL_isTold 452 = .ok (.iload 16, 2) := by decide +kernel
theorem dL_isTold_454 : decode cL_isTold 454 = .ok (.imul, 1) := by decide +kernel
theorem dL_isTold_455 : decode cL_isTold 455 = .ok (.ishr, 1) := by decide +kernel
theorem dL_isTold_456 : decode cL_isTold 456 = .ok (.bipush 31, 2) := by decide +kernel
theorem dL_isTold_458 : decode cL_isTold 458 = .ok (.iand, 1) := by decide +kernel
theorem dL_isTold_459 : decode cL_isTold 459 = .ok (.if_icmp .ne 22, 3) := by decide +kernel
theorem dL_isTold_462 : decode cL_isTold 462 = .ok (.aload_n 0, 1) := by decide +kernel
theorem dL_isTold_463 : decode cL_isTold 463 = .ok (.iload 16, 2) := by decide +kernel
theorem dL_isTold_465 : decode cL_isTold 465 = .ok (.invokevirtual 209, 3) := by decide +kernel
theorem dL_isTold_468 : decode cL_isTold 468 = .ok (.aload_n 2, 1) := by decide +kernel
theorem dL_isTold_469 : decode cL_isTold 469 = .ok (.aload 8, 2) := by decide +kernel
theorem dL_isTold_471 : decode cL_isTold 471 = .ok (.iload 11, 2) := by decide +kernel
theorem dL_isTold_473 : decode cL_isTold 473 = .ok (.iload 16, 2) := by decide +kernel
theorem dL_isTold_475 : decode cL_isTold 475 = .ok (.invokestatic 64, 3) := by decide +kernel
theorem dL_isTold_478 : decode cL_isTold 478 = .ok (.if_icmp .eq 5, 3) := by decide +kernel
theorem dL_isTold_481 : decode cL_isTold 481 = .ok (.iconst 0, 1) := by decide +kernel
theorem dL_isTold_482 : decode cL_isTold 482 = .ok (.ireturn, 1) := by decide +kernel
theorem dL_isTold_483 : decode cL_isTold 483 = .ok (.iinc 16 1, 3) := by decide +kernel
theorem dL_isTold_486 : decode cL_isTold 486 = .ok (.goto (-81), 3) := by decide +kernel
theorem dL_isTold_489 : decode cL_isTold 489 = .ok (.iload_n 1, 1) := by decide +kernel
theorem dL_isTold_490 : decode cL_isTold 490 = .ok (.aload 8, 2) := by decide +kernel
theorem dL_isTold_492 : decode cL_isTold 492 = .ok (.iconst 0, 1) := by decide +kernel
theorem dL_isTold_493 : decode cL_isTold 493 = .ok (.iaload, 1) := by decide +kernel
theorem dL_isTold_494 : decode cL_isTold 494 = .ok (.invokestatic 99, 3) := by decide +kernel
theorem dL_isTold_497 : decode cL_isTold 497 = .ok (.istore 16, 2) := by decide +kernel
theorem dL_isTold_499 : decode cL_isTold 499 = .ok (.iconst 0, 1) := by decide +kernel
theorem dL_isTold_500 : decode cL_isTold 500 = .ok (.istore 17, 2) := by decide +kernel
theorem dL_isTold_502 : decode cL_isTold 502 = .ok (.iconst 0, 1) := by decide +kernel
theorem dL_isTold_503 : decode cL_isTold 503 = .ok (.istore 18, 2) := by decide +kernel
theorem dL_isTold_505 : decode cL_isTold 505 = .ok (.iload 18, 2) := by decide +kernel
theorem dL_isTold_507 : decode cL_isTold 507 = .ok (.aload_n 2, 1) := by decide +kernel
theorem dL_isTold_508 : decode cL_isTold 508 = .ok (.iload 16, 2) := by decide +kernel
theorem dL_isTold_510 : decode cL_isTold 510 = .ok (.iaload, 1) := by decide +kernel
theorem dL_isTold_511 : decode cL_isTold 511 = .ok (.if_icmp .ge 148, 3) := by decide +kernel
theorem dL_isTold_514 : decode cL_isTold 514 = .ok (.aload_n 2, 1) := by decide +kernel
theorem dL_isTold_515 : decode cL_isTold 515 = .ok (.aload_n 3, 1) := by decide +kernel
theorem dL_isTold_516 : decode cL_isTold 516 = .ok (.aload 7, 2) := by decide +kernel
theorem dL_isTold_518 : decode cL_isTold 518 = .ok (.aload 8, 2) := by decide +kernel
theorem dL_isTold_520 : decode cL_isTold 520 = .ok (.iload 16, 2) := by decide +kernel
theorem dL_isTold_522 : decode cL_isTold 522 = .ok (.iload 18, 2) := by decide +kernel
theorem dL_isTold_524 : decode cL_isTold 524 = .ok (.invokestatic 122, 3) := by decide +kernel
theorem dL_isTold_527 : decode cL_isTold 527 = .ok (.ifCond .ne 6, 3) := by decide +kernel
theorem dL_isTold_530 : decode cL_isTold 530 = .ok (.goto 123, 3) := by decide +kernel
theorem dL_isTold_533 : decode cL_isTold 533 = .ok (.iload 17, 2) := by decide +kernel
theorem dL_isTold_535 : decode cL_isTold 535 = .ok (.iconst 1, 1) := by decide +kernel
theorem dL_isTold_536 : decode cL_isTold 536 = .ok (.iload 18, 2) := by decide +kernel
theorem dL_isTold_538 : decode cL_isTold 538 = .ok (.ishl, 1) := by decide +kernel
theorem dL_isTold_539 : decode cL_isTold 539 = .ok (.ior, 1) := by decide +kernel
theorem dL_isTold_540 : decode cL_isTold 540 = .ok (.istore 17, 2) := by decide +kernel
theorem dL_isTold_542 : decode cL_isTold 542 = .ok (.sipush 9999, 3) := by decide +kernel
theorem dL_isTold_545 : decode cL_isTold 545 = .ok (.istore 19, 2) := by decide +kernel
theorem dL_isTold_547 : decode cL_isTold 547 = .ok (.aload_n 2, 1) := by decide +kernel
theorem dL_isTold_548 : decode cL_isTold 548 = .ok (.aload_n 3, 1) := by decide +kernel
theorem dL_isTold_549 : decode cL_isTold 549 = .ok (.aload 7, 2) := by decide +kernel
theorem dL_isTold_551 : decode cL_isTold 551 = .ok (.aload 8, 2) := by decide +kernel
theorem dL_isTold_553 : decode cL_isTold 553 = .ok (.aload 8, 2) := by decide +kernel
theorem dL_isTold_555 : decode cL_isTold 555 = .ok (.iconst 2, 1) := by decide +kernel
theorem dL_isTold_556 : decode cL_isTold 556 = .ok (.iaload, 1) := by decide +kernel
theorem dL_isTold_557 : decode cL_isTold 557 = .ok (.bipush 63, 2) := by decide +kernel
theorem dL_isTold_559 : decode cL_isTold 559 = .ok (.iload 16, 2) := by decide +kernel
theorem dL_isTold_561 : decode cL_isTold 561 = .ok (.iload 18, 2) := by decide +kernel
theorem dL_isTold_563 : decode cL_isTold 563 = .ok (.iconst 0, 1) := by decide +kernel
theorem dL_isTold_564 : decode cL_isTold 564 = .ok (.invokestatic 81, 3) := by decide +kernel
theorem dL_isTold_567 : decode cL_isTold 567 = .ok (.istore 20, 2) := by decide +kernel
theorem dL_isTold_569 : decode cL_isTold 569 = .ok (.iload 20, 2) := by decide +kernel
theorem dL_isTold_571 : decode cL_isTold 571 = .ok (.ifCond .lt 67, 3) := by decide +kernel
theorem dL_isTold_574 : decode cL_isTold 574 = .ok (.aload_n 2, 1) := by decide +kernel
theorem dL_isTold_575 : decode cL_isTold 575 = .ok (.aload 5, 2) := by decide +kernel
theorem dL_isTold_577 : decode cL_isTold 577 = .ok (.aload 4, 2) := by decide +kernel
theorem dL_isTold_579 : decode cL_isTold 579 = .ok (.aload 8, 2) := by decide +kernel
theorem dL_isTold_581 : decode cL_isTold 581 = .ok (.iload 20, 2) := by decide +kernel
theorem dL_isTold_583 : decode cL_isTold 583 = .ok (.invokestatic 160, 3) := by decide +kernel
theorem dL_isTold_586 : decode cL_isTold 586 = .ok (.iload 19, 2) := by decide +kernel
theorem dL_isTold_588 : decode cL_isTold 588 = .ok (.if_icmp .ge 18, 3) := by decide +kernel
theorem dL_isTold_591 : decode cL_isTold 591 = .ok (.aload_n 2, 1) := by decide +kernel
theorem dL_isTold_592 : decode cL_isTold 592 = .ok (.aload 5, 2) := by decide +kernel
theorem dL_isTold_594 : decode cL_isTold 594 = .ok (.aload 4, 2) := by decide +kernel
theorem dL_isTold_596 : decode cL_isTold 596 = .ok (.aload 8, 2) := by decide +kernel
theorem dL_isTold_598 : decode cL_isTold 598 = .ok (.iload 20, 2) := by decide +kernel
theorem dL_isTold_600 : decode cL_isTold 600 = .ok (.invokestatic 160, 3) := by decide +kernel
theorem dL_isTold_603 : decode cL_isTold 603 = .ok (.goto 5, 3) := by decide +kernel
theorem dL_isTold_606 : decode cL_isTold 606 = .ok (.iload 19, 2) := by decide +kernel
theorem dL_isTold_608 : decode cL_isTold 608 = .ok (.istore 19, 2) := by decide +kernel
theorem dL_isTold_610 : decode cL_isTold 610 = .ok (.aload_n 2, 1) := by decide +kernel
theorem dL_isTold_611 : decode cL_isTold 611 = .ok (.aload_n 3, 1) := by decide +kernel
theorem dL_isTold_612 : decode cL_isTold 612 = .ok (.aload 7, 2) := by decide +kernel
theorem dL_isTold_614 : decode cL_isTold 614 = .ok (.aload 8, 2) := by decide +kernel
theorem dL_isTold_616 : decode cL_isTold 616 = .ok (.aload 8, 2) := by decide +kernel
theorem dL_isTold_618 : decode cL_isTold 618 = .ok (.iconst 2, 1) := by decide +kernel
theorem dL_isTold_619 : decode cL_isTold 619 = .ok (.iaload, 1) := by decide +kernel
theorem dL_isTold_620 : decode cL_isTold 620 = .ok (.bipush 63, 2) := by decide +kernel
theorem dL_isTold_622 : decode cL_isTold 622 = .ok (.iload 16, 2) := by decide +kernel
theorem dL_isTold_624 : decode cL_isTold 624 = .ok (.iload 18, 2) := by decide +kernel
theorem dL_isTold_626 : decode cL_isTold 626 = .ok (.iload 20, 2) := by decide +kernel
theorem dL_isTold_628 : decode cL_isTold 628 = .ok (.iconst 1, 1) := by decide +kernel
theorem dL_isTold_629 : decode cL_isTold 629 = .ok (.iadd, 1) := by decide +kernel
theorem dL_isTold_630 : decode cL_isTold 630 = .ok (.invokestatic 81, 3) := by decide +kernel
theorem dL_isTold_633 : decode cL_isTold 633 = .ok (.istore 20, 2) := by decide +kernel
theorem dL_isTold_635 : decode cL_isTold 635 = .ok (.goto (-66), 3) := by decide +kernel
theorem dL_isTold_638 : decode cL_isTold 638 = .ok (.aload_n 0, 1) := by decide +kernel
theorem dL_isTold_639 : decode cL_isTold 639 = .ok (.iload 16, 2) := by decide +kernel
theorem dL_isTold_641 : decode cL_isTold 641 = .ok (.iload 18, 2) := by decide +kernel
theorem dL_isTold_643 : decode cL_isTold 643 = .ok (.invokestatic 212, 3) := by decide +kernel
theorem dL_isTold_646 : decode cL_isTold 646 = .ok (.iload 19, 2) := by decide +kernel
theorem dL_isTold_648 : decode cL_isTold 648 = .ok (.if_icmp .eq 5, 3) := by decide +kernel
theorem dL_isTold_651 : decode cL_isTold 651 = .ok (.iconst 0, 1) := by decide +kernel
theorem dL_isTold_652 : decode cL_isTold 652 = .ok (.ireturn, 1) := by decide +kernel
theorem dL_isTold_653 : decode cL_isTold 653 = .ok (.iinc 18 1, 3) := by decide +kernel
theorem dL_isTold_656 : decode cL_isTold 656 = .ok (.goto (-151), 3) := by decide +kernel
theorem dL_isTold_659 : decode cL_isTold 659 = .ok (.iload_n 1, 1) := by decide +kernel
theorem dL_isTold_660 : decode cL_isTold 660 = .ok (.bipush 6, 2) := by decide +kernel
theorem dL_isTold_662 : decode cL_isTold 662 = .ok (.ishr, 1) := by decide +kernel
theorem dL_isTold_663 : decode cL_isTold 663 = .ok (.aload_n 2, 1) := by decide +kernel
theorem dL_isTold_664 : decode cL_isTold 664 = .ok (.iload 16, 2) := by decide +kernel
theorem dL_isTold_666 : decode cL_isTold 666 = .ok (.iaload, 1) := by decide +kernel
theorem dL_isTold_667 : decode cL_isTold 667 = .ok (.invokestatic 99, 3) := by decide +kernel
theorem dL_isTold_670 : decode cL_isTold 670 = .ok (.istore 18, 2) := by decide +kernel
theorem dL_isTold_672 : decode cL_isTold 672 = .ok (.aload_n 2, 1) := by decide +kernel
theorem dL_isTold_673 : decode cL_isTold 673 = .ok (.aload_n 3, 1) := by decide +kernel
theorem dL_isTold_674 : decode cL_isTold 674 = .ok (.aload 6, 2) := by decide +kernel
theorem dL_isTold_676 : decode cL_isTold 676 = .ok (.aload 7, 2) := by decide +kernel
theorem dL_isTold_678 : decode cL_isTold 678 = .ok (.aload 8, 2) := by decide +kernel
theorem dL_isTold_680 : decode cL_isTold 680 = .ok (.iload 16, 2) := by decide +kernel
theorem dL_isTold_682 : decode cL_isTold 682 = .ok (.iload 18, 2) := by decide +kernel
theorem dL_isTold_684 : decode cL_isTold 684 = .ok (.invokestatic 140, 3) := by decide +kernel
theorem dL_isTold_687 : decode cL_isTold 687 = .ok (.istore 19, 2) := by decide +kernel
theorem dL_isTold_689 : decode cL_isTold 689 = .ok (.aload_n 0, 1) := by decide +kernel
theorem dL_isTold_690 : decode cL_isTold 690 = .ok (.iload 16, 2) := by decide +kernel
theorem dL_isTold_692 : decode cL_isTold 692 = .ok (.invokestatic 194, 3) := by decide +kernel
theorem dL_isTold_695 : decode cL_isTold 695 = .ok (.iload 17, 2) := by decide +kernel
theorem dL_isTold_697 : decode cL_isTold 697 = .ok (.if_icmp .ne 134, 3) := by decide +kernel
theorem dL_isTold_700 : decode cL_isTold 700 = .ok (.iload 17, 2) := by decide +kernel
theorem dL_isTold_702 : decode cL_isTold 702 = .ok (.iload 18, 2) := by decide +kernel
theorem dL_isTold_704 : decode cL_isTold 704 = .ok (.ishr, 1) := by decide +kernel
theorem dL_isTold_705 : decode cL_isTold 705 = .ok (.iconst 1, 1) := by decide +kernel
theorem dL_isTold_706 : decode cL_isTold 706 = .ok (.iand, 1) := by decide +kernel
theorem dL_isTold_707 : decode cL_isTold 707 = .ok (.iconst 1, 1) := by decide +kernel
theorem dL_isTold_708 : decode cL_isTold 708 = .ok (.if_icmp .eq 17, 3) := by decide +kernel
theorem dL_isTold_711 : decode cL_isTold 711 = .ok (.aload_n 0, 1) := by decide +kernel
theorem dL_isTold_712 : decode cL_isTold 712 = .ok (.iload 16, 2) := by decide +kernel
theorem dL_isTold_714 : decode cL_isTold 714 = .ok (.iload 18, 2) := by decide +kernel
theorem dL_isTold_716 : decode cL_isTold 716 = .ok (.invokestatic 212, 3) := by decide +kernel
theorem dL_isTold_719 : decode cL_isTold 719 = .ok (.sipush (-9999), 3) := by decide +kernel
theorem dL_isTold_722 : decode cL_isTold 722 = .ok (.if_icmp .ne 109, 3) := by decide +kernel
theorem dL_isTold_725 : decode cL_isTold 725 = .ok (.aload_n 0, 1) := by decide +kernel
theorem dL_isTold_726 : decode cL_isTold 726 = .ok (.iconst 1, 1) := by decide +kernel
theorem dL_isTold_727 : decode cL_isTold 727 = .ok (.iload 16, 2) := by decide +kernel
theorem dL_isTold_729 : decode cL_isTold 729 = .ok (.iload 18, 2) := by decide +kernel
theorem dL_isTold_731 : decode cL_isTold 731 = .ok (.invokestatic 214, 3) := by decide +kernel
theorem dL_isTold_734 : decode cL_isTold 734 = .ok (.iload 19, 2) := by decide +kernel
theorem dL_isTold_736 : decode cL_isTold 736 = .ok (.ifCond .ge 9, 3) := by decide +kernel
theorem dL_isTold_739 : decode cL_isTold 739 = .ok (.sipush (-7003), 3) := by decide +kernel
theorem dL_isTold_742 : decode cL_isTold 742 = .ok (.goto 8, 3) := by decide +kernel
theorem dL_isTold_745 : decode cL_isTold 745 = .ok (.iload 19, 2) := by decide +kernel
theorem dL_isTold_747 : decode cL_isTold 747 = .ok (.bipush 64, 2) := by decide +kernel
theorem dL_isTold_749 : decode cL_isTold 749 = .ok (.idiv, 1) := by decide +kernel
theorem dL_isTold_750 : decode cL_isTold 750 = .ok (.if_icmp .ne 81, 3) := by decide +kernel
theorem dL_isTold_753 : decode cL_isTold 753 = .ok (.aload_n 0, 1) := by decide +kernel
theorem dL_isTold_754 : decode cL_isTold 754 = .ok (.iconst 0, 1) := by decide +kernel
theorem dL_isTold_755 : decode cL_isTold 755 = .ok (.iload 16, 2) := by decide +kernel
theorem dL_isTold_757 : decode cL_isTold 757 = .ok (.iload 18, 2) := by decide +kernel
theorem dL_isTold_759 : decode cL_isTold 759 = .ok (.invokestatic 214, 3) := by decide +kernel
theorem dL_isTold_762 : decode cL_isTold 762 = .ok (.iload 19, 2) := by decide +kernel
theorem dL_isTold_764 : decode cL_isTold 764 = .ok (.ifCond .ge 9, 3) := by decide +kernel
theorem dL_isTold_767 : decode cL_isTold 767 = .ok (.sipush (-7003), 3) := by decide +kernel
theorem dL_isTold_770 : decode cL_isTold 770 = .ok (.goto 8, 3) := by decide +kernel
theorem dL_isTold_773 : decode cL_isTold 773 = .ok (.iload 19, 2) := by decide +kernel
theorem dL_isTold_775 : decode cL_isTold 775 = .ok (.bipush 64, 2) := by decide +kernel
theorem dL_isTold_777 : decode cL_isTold 777 = .ok (.irem, 1) := by decide +kernel
theorem dL_isTold_778 : decode cL_isTold 778 = .ok (.if_icmp .ne 53, 3) := by decide +kernel
theorem dL_isTold_781 : decode cL_isTold 781 = .ok (.aload_n 0, 1) := by decide +kernel
theorem dL_isTold_782 : decode cL_isTold 782 = .ok (.iconst 1, 1) := by decide +kernel
theorem dL_isTold_783 : decode cL_isTold 783 = .ok (.iload 16, 2) := by decide +kernel
theorem dL_isTold_785 : decode cL_isTold 785 = .ok (.aload_n 2, 1) := by decide +kernel
theorem dL_isTold_786 : decode cL_isTold 786 = .ok (.iload 16, 2) := by decide +kernel
theorem dL_isTold_788 : decode cL_isTold 788 = .ok (.iaload, 1) := by decide +kernel
theorem dL_isTold_789 : decode cL_isTold 789 = .ok (.invokestatic 214, 3) := by decide +kernel
theorem dL_isTold_792 : decode cL_isTold 792 = .ok (.sipush (-7001), 3) := by decide +kernel
theorem dL_isTold_795 : decode cL_isTold 795 = .ok (.if_icmp .ne 36, 3) := by decide +kernel
theorem dL_isTold_798 : decode cL_isTold 798 = .ok (.aload_n 0, 1) := by decide +kernel
theorem dL_isTold_799 : decode cL_isTold 799 = .ok (.iconst 0, 1) := by decide +kernel
theorem dL_isTold_800 : decode cL_isTold 800 = .ok (.aload 8, 2) := by decide +kernel
theorem dL_isTold_802 : decode cL_isTold 802 = .ok (.iconst 0, 1) := by decide +kernel
theorem dL_isTold_803 : decode cL_isTold 803 = .ok (.iaload, 1) := by decide +kernel
theorem dL_isTold_804 : decode cL_isTold 804 = .ok (.iconst 0, 1) := by decide +kernel
theorem dL_isTold_805 : decode cL_isTold 805 = .ok (.invokestatic 214, 3) := by decide +kernel
theorem dL_isTold_808 : decode cL_isTold 808 = .ok (.sipush (-7001), 3) := by decide +kernel
theorem dL_isTold_811 : decode cL_isTold 811 = .ok (.if_icmp .ne 20, 3) := by decide +kernel
theorem dL_isTold_814 : decode cL_isTold 814 = .ok (.aload_n 0, 1) := by decide +kernel
theorem dL_isTold_815 : decode cL_isTold 815 = .ok (.iload 16, 2) := by decide +kernel
theorem dL_isTold_817 : decode cL_isTold 817 = .ok (.iconst (-1), 1) := by decide +kernel
theorem dL_isTold_818 : decode cL_isTold 818 = .ok (.invokestatic 212, 3) := by decide +kernel
theorem dL_isTold_821 : decode cL_isTold 821 = .ok (.sipush (-9998), 3) := by decide +kernel
theorem dL_isTold_824 : decode cL_isTold 824 = .ok (.if_icmp .ne 7, 3) := by decide +kernel
theorem dL_isTold_827 : decode cL_isTold 827 = .ok (.iconst 1, 1) := by decide +kernel
theorem dL_isTold_828 : decode cL_isTold 828 = .ok (.goto 4, 3) := by decide +kernel
theorem dL_isTold_831 : decode cL_isTold 831 = .ok (.iconst 0, 1) := by decide +kernel
theorem dL_isTold_832 : decode cL_isTold 832 = .ok (.ireturn, 1) := by decide +kernel
