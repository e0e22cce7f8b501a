theorem dL_isSo_419 : decode cL_isSo 419 = .ok (.aload_n 0, 1) := by decide +kernel
theorem dL_isSo_420 : decode cL_isSo 420 = .ok (.iload 7, 2) := by decide +kernel
theorem dL_isSo_422 : decode cL_isSo 422 = .ok (.iconst 0, 1) := by decide +kernel
theorem dL_isSo_423 : decode cL_isSo 423 = .ok (.invokevirtual 58, 3) := by decide +kernel
theorem dL_isSo_426 : decode cL_isSo 426 = .ok (.iconst 2, 1) := by decide +kernel
theorem dL_isSo_427 : decode cL_isSo 427 = .ok (.if_icmp .eq 16, 3) := by decide +kernel
theorem dL_isSo_430 : decode cL_isSo 430 = .ok (.aload_n 0, 1) := by decide +kernel
theorem dL_isSo_431 : decode cL_isSo 431 = .ok (.iload 7, 2) := by decide +kernel
theorem dL_isSo_433 : decode cL_isSo 433 = .ok (.bipush 9, 2) := by decide +kernel
theorem dL_isSo_435 : decode cL_isSo 435 = .ok (.invokevirtual 58, 3) := by decide +kernel
theorem dL_isSo_438 : decode cL_isSo 438 = .ok (.ifCond .eq 5, 3) := by decide +kernel
theorem dL_isSo_441 : decode cL_isSo 441 = .ok (.iconst 0, 1) := by decide +kernel
theorem dL_isSo_442 : decode cL_isSo 442 = .ok (.ireturn, 1) := by decide +kernel
theorem dL_isSo_443 : decode cL_isSo 443 = .ok (.iconst 0, 1) := by decide +kernel
theorem dL_isSo_444 : decode cL_isSo 444 = .ok (.istore 8, 2) := by decide +kernel
theorem dL_isSo_446 : decode cL_isSo 446 = .ok (.iload 8, 2) := by decide +kernel
theorem dL_isSo_448 : decode cL_isSo 448 = .ok (.iload 7, 2) := by decide +kernel
theorem dL_isSo_450 : decode cL_isSo 450 = .ok (.if_icmp .ge 113, 3) := by decide +kernel
theorem dL_isSo_453 : decode cL_isSo 453 = .ok (.aload_n 0, 1) := by decide +kernel
theorem dL_isSo_454 : decode cL_isSo 454 = .ok (.iload 7, 2) := by decide +kernel
theorem dL_isSo_456 : decode cL_isSo 456 = .ok (.iconst 1, 1) := by decide +kernel
theorem dL_isSo_457 : decode cL_isSo 457 = .ok (.invokevirtual 58, 3) := by decide +kernel
theorem dL_isSo_460 : decode cL_isSo 460 = .ok (.aload_n 0, 1) := by decide +kernel
theorem dL_isSo_461 : decode cL_isSo 461 = .ok (.iload 8, 2) := by decide +kernel
theorem dL_isSo_463 : decode cL_isSo 463 = .ok (.iconst 1, 1) := by decide +kernel
theorem dL_isSo_464 : decode cL_isSo 464 = .ok (.invokevirtual 58, 3) := by decide +kernel
theorem dL_isSo_467 : decode cL_isSo 467 = .ok (.if_icmp .ne 41, 3) := by decide +kernel
theorem dL_isSo_470 : decode cL_isSo 470 = .ok (.aload_n 0, 1) := by decide +kernel
theorem dL_isSo_471 : decode cL_isSo 471 = .ok (.iload 7, 2) := by decide +kernel
theorem dL_isSo_473 : decode cL_isSo 473 = .ok (.iconst 2, 1) := by decide +kernel
theorem dL_isSo_474 : decode cL_isSo 474 = .ok (.invokevirtual 58, 3) := by decide +kernel
theorem dL_isSo_477 : decode cL_isSo 477 = .ok (.aload_n 0, 1) := by decide +kernel
theorem dL_isSo_478 : decode cL_isSo 478 = .ok (.iload 8, 2) := by decide +kernel
theorem dL_isSo_480 : decode cL_isSo 480 = .ok (.iconst 3, 1) := by decide +kernel
theorem dL_isSo_481 : decode cL_isSo 481 = .ok (.invokevirtual 58, 3) := by decide +kernel
theorem dL_isSo_484 : decode cL_isSo 484 = .ok (.if_icmp .gt 24, 3) := by decide +kernel
theorem dL_isSo_487 : decode cL_isSo 487 = .ok (.aload_n 0, 1) := by decide +kernel
theorem dL_isSo_488 : decode cL_isSo 488 = .ok (.iload 8, 2) := by decide +kernel
theorem dL_isSo_490 : decode cL_isSo 490 = .ok (.iconst 2, 1) := by decide +kernel
theorem dL_isSo_491 : decode cL_isSo 491 = .ok (.invokevirtual 58, 3) := by decide +kernel
theorem dL_isSo_494 : decode cL_isSo 494 = .ok (.aload_n 0, 1) := by decide +kernel
theorem dL_isSo_495 : decode cL_isSo 495 = .ok (.iload 7, 2) := by decide +kernel
theorem dL_isSo_497 : decode cL_isSo 497 = .ok (.iconst 3, 1) := by decide +kernel
theorem dL_isSo_498 : decode cL_isSo 498 = .ok (.invokevirtual 58, 3) := by decide +kernel
theorem dL_isSo_501 : decode cL_isSo 501 = .ok (.if_icmp .gt 7, 3) := by decide +kernel
theorem dL_isSo_504 : decode cL_isSo 504 = .ok (.iconst 1, 1) := by decide +kernel
theorem dL_isSo_505 : decode cL_isSo 505 = .ok (.goto 4, 3) := by decide +kernel
theorem dL_isSo_508 : decode cL_isSo 508 = .ok (.iconst 0, 1) := by decide +kernel
theorem dL_isSo_509 : decode cL_isSo 509 = .ok (.istore 9, 2) := by decide +kernel
theorem dL_isSo_511 : decode cL_isSo 511 = .ok (.iload 9, 2) := by decide +kernel
theorem dL_isSo_513 : decode cL_isSo 513 = .ok (.ifCond .eq 44, 3) := by decide +kernel
theorem dL_isSo_516 : decode cL_isSo 516 = .ok (.aload_n 0, 1) := by decide +kernel
theorem dL_isSo_517 : decode cL_isSo 517 = .ok (.iload 7, 2) := by decide +kernel
theorem dL_isSo_519 : decode cL_isSo 519 = .ok (.iconst 4, 1) := by decide +kernel
theorem dL_isSo_520 : decode cL_isSo 520 = .ok (.invokevirtual 58, 3) := by decide +kernel
theorem dL_isSo_523 : decode cL_isSo 523 = .ok (.aload_n 0, 1) := by decide +kernel
theorem dL_isSo_524 : decode cL_isSo 524 = .ok (.iload 8, 2) := by decide +kernel
theorem dL_isSo_526 : decode cL_isSo 526 = .ok (.iconst 4, 1) := by decide +kernel
theorem dL_isSo_527 : decode cL_isSo 527 = .ok (.invokevirtual 58, 3) := by decide +kernel
theorem dL_isSo_530 : decode cL_isSo 530 = .ok (.if_icmp .ne 27, 3) := by decide +kernel
theorem dL_isSo_533 : decode cL_isSo 533 = .ok (.aload_n 0, 1) := by decide +kernel
theorem dL_isSo_534 : decode cL_isSo 534 = .ok (.iload 7, 2) := by decide +kernel
theorem dL_isSo_536 : decode cL_isSo 536 = .ok (.iconst 0, 1) := by decide +kernel
theorem dL_isSo_537 : decode cL_isSo 537 = .ok (.invokevirtual 58, 3) := by decide +kernel
theorem dL_isSo_540 : decode cL_isSo 540 = .ok (.iconst 4, 1) := by decide +kernel
theorem dL_isSo_541 : decode cL_isSo 541 = .ok (.if_icmp .eq 16, 3) := by decide +kernel
theorem dL_isSo_544 : decode cL_isSo 544 = .ok (.aload_n 0, 1) := by decide +kernel
theorem dL_isSo_545 : decode cL_isSo 545 = .ok (.iload 8, 2) := by decide +kernel
theorem dL_isSo_547 : decode cL_isSo 547 = .ok (.iconst 0, 1) := by decide +kernel
theorem dL_isSo_548 : decode cL_isSo 548 = .ok (.invokevirtual 58, 3) := by decide +kernel
theorem dL_isSo_551 : decode cL_isSo 551 = .ok (.iconst 4, 1) := by decide +kernel
theorem dL_isSo_552 : decode cL_isSo 552 = .ok (.if_icmp .eq 5, 3) := by decide +kernel
theorem dL_isSo_555 : decode cL_isSo 555 = .ok (.iconst 0, 1) := by decide +kernel
theorem dL_isSo_556 : decode cL_isSo 556 = .ok (.ireturn, 1) := by decide +kernel
theorem dL_isSo_557 : decode cL_isSo 557 = .ok (.iinc 8 1, 3) := by decide +kernel
theorem dL_isSo_560 : decode cL_isSo 560 = .ok (.goto (-114), 3) := by decide +kernel
theorem dL_isSo_563 : decode cL_isSo 563 = .ok (.iinc 7 1, 3) := by decide +kernel
theorem dL_isSo_566 : decode cL_isSo 566 = .ok (.goto (-230), 3) := by decide +kernel
theorem dL_isSo_569 : decode cL_isSo 569 = .ok (.iconst 0, 1) := by decide +kernel
theorem dL_isSo_570 : decode cL_isSo 570 = .ok (.istore 7, 2) := by decide +kernel
theorem dL_isSo_572 : decode cL_isSo 572 = .ok (.iload 7, 2) := by decide +kernel
theorem dL_isSo_574 : decode cL_isSo 574 = .ok (.iload_n 1, 1) := by decide +kernel
theorem dL_isSo_575 : decode cL_isSo 575 = .ok (.if_icmp .ge 53, 3) := by decide +kernel
theorem dL_isSo_578 : decode cL_isSo 578 = .ok (.aload_n 0, 1) := by decide +kernel
theorem dL_isSo_579 : decode cL_isSo 579 = .ok (.iload 7, 2) := by decide +kernel
theorem dL_isSo_581 : decode cL_isSo 581 = .ok (.iconst 1, 1) := by decide +kernel
theorem dL_isSo_582 : decode cL_isSo 582 = .ok (.invokevirtual 121, 3) := by decide +kernel
theorem dL_isSo_585 : decode cL_isSo 585 = .ok (.ifCond .lt 35, 3) := by decide +kernel
theorem dL_isSo_588 : decode cL_isSo 588 = .ok (.aload_n 0, 1) := by decide +kernel
theorem dL_isSo_589 : decode cL_isSo 589 = .ok (.iload 7, 2) := by decide +kernel
theorem dL_isSo_591 : decode cL_isSo 591 = .ok (.iconst 1, 1) := by decide +kernel
theorem dL_isSo_592 : decode cL_isSo 592 = .ok (.invokevirtual 121, 3) := by decide +kernel
theorem dL_isSo_595 : decode cL_isSo 595 = .ok (.bipush 99, 2) := by decide +kernel
theorem dL_isSo_597 : decode cL_isSo 597 = .ok (.if_icmp .gt 23, 3) := by decide +kernel
theorem dL_isSo_600 : decode cL_isSo 600 = .ok (.aload_n 0, 1) := by decide +kernel
theorem dL_isSo_601 : decode cL_isSo 601 = .ok (.iload 7, 2) := by decide +kernel
theorem dL_isSo_603 : decode cL_isSo 603 = .ok (.iconst 2, 1) := by decide +kernel
theorem dL_isSo_604 : decode cL_isSo 604 = .ok (.invokevirtual 121, 3) := by decide +kernel
theorem dL_isSo_607 : decode cL_isSo 607 = .ok (.ifCond .lt 13, 3) := by decide +kernel
theorem dL_isSo_610 : decode cL_isSo 610 = .ok (.aload_n 0, 1) := by decide +kernel
theorem dL_isSo_611 : decode cL_isSo 611 = .ok (.iload 7, 2) := by decide +kernel
theorem dL_isSo_613 : decode cL_isSo 613 = .ok (.iconst 3, 1) := by decide +kernel
theorem dL_isSo_614 : decode cL_isSo 614 = .ok (.invokevirtual 121, 3) := by decide +kernel
theorem dL_isSo_617 : decode cL_isSo 617 = .ok (.ifCond .ge 5, 3) := by decide +kernel
theorem dL_isSo_620 : decode cL_isSo 620 = .ok (.iconst 0, 1) := by decide +kernel
theorem dL_isSo_621 : decode cL_isSo 621 = .ok (.ireturn, 1) := by decide +kernel
theorem dL_isSo_622 : decode cL_isSo 622 = .ok (.iinc 7 1, 3) := by decide +kernel
theorem dL_isSo_625 : decode cL_isSo 625 = .ok (.goto (-53), 3) := by decide +kernel
theorem dL_isSo_628 : decode cL_isSo 628 = .ok (.iconst 0, 1) := by decide +kernel
theorem dL_isSo_629 : decode cL_isSo 629 = .ok (.istore 7, 2) := by decide +kernel
theorem dL_isSo_631 : decode cL_isSo 631 = .ok (.iload 7, 2) := by decide +kernel
theorem dL_isSo_633 : decode cL_isSo 633 = .ok (.iconst 5, 1) := by decide +kernel
theorem dL_isSo_634 : decode cL_isSo 634 = .ok (.if_icmp .ge 27, 3) := by decide +kernel
theorem dL_isSo_637 : decode cL_isSo 637 = .ok (.aload_n 0, 1) := by decide +kernel
theorem dL_isSo_638 : decode cL_isSo 638 = .ok (.iconst 4, 1) := by decide +kernel
theorem dL_isSo_639 : decode cL_isSo 639 = .ok (.iload 7, 2) := by decide +kernel
theorem dL_isSo_641 : decode cL_isSo 641 = .ok (.iadd, 1) := by decide +kernel
theorem dL_isSo_642 : decode cL_isSo 642 = .ok (.invokevirtual 28, 3) := by decide +kernel
theorem dL_isSo_645 : decode cL_isSo 645 = .ok (.aload 5, 2) := by decide +kernel
theorem dL_isSo_647 : decode cL_isSo 647 = .ok (.iload 7, 2) := by decide +kernel
theorem dL_isSo_649 : decode cL_isSo 649 = .ok (.iaload, 1) := by decide +kernel
theorem dL_isSo_650 : decode cL_isSo 650 = .ok (.if_icmp .eq 5, 3) := by decide +kernel
theorem dL_isSo_653 : decode cL_isSo 653 = .ok (.iconst 0, 1) := by decide +kernel
theorem dL_isSo_654 : decode cL_isSo 654 = .ok (.ireturn, 1) := by decide +kernel
theorem dL_isSo_655 : decode cL_isSo 655 = .ok (.iinc 7 1, 3) := by decide +kernel
theorem dL_isSo_658 : decode cL_isSo 658 = .ok (.goto (-27), 3) := by decide +kernel
theorem dL_isSo_661 : decode cL_isSo 661 = .ok (.aload_n 0, 1) := by decide +kernel
theorem dL_isSo_662 : decode cL_isSo 662 = .ok (.bipush 13, 2) := by decide +kernel
theorem dL_isSo_664 : decode cL_isSo 664 = .ok (.invokevirtual 28, 3) := by decide +kernel
theorem dL_isSo_667 : decode cL_isSo 667 = .ok (.iload_n 3, 1) := by decide +kernel
theorem dL_isSo_668 : decode cL_isSo 668 = .ok (.if_icmp .ne 59, 3) := by decide +kernel
theorem dL_isSo_671 : decode cL_isSo 671 = .ok (.aload_n 0, 1) := by decide +kernel
theorem dL_isSo_672 : decode cL_isSo 672 = .ok (.bipush 14, 2) := by decide +kernel
theorem dL_isSo_674 : decode cL_isSo 674 = .ok (.invokevirtual 28, 3) := by decide +kernel
theorem dL_isSo_677 : decode cL_isSo 677 = .ok (.iload 4, 2) := by decide +kernel
theorem dL_isSo_679 : decode cL_isSo 679 = .ok (.if_icmp .ne 48, 3) := by decide +kernel
theorem dL_isSo_682 : decode cL_isSo 682 = .ok (.aload_n 0, 1) := by decide +kernel
theorem dL_isSo_683 : decode cL_isSo 683 = .ok (.bipush 16, 2) := by decide +kernel
theorem dL_isSo_685 : decode cL_isSo 685 = .ok (.invokevirtual 28, 3) := by decide +kernel
theorem dL_isSo_688 : decode cL_isSo 688 = .ok (.iload 6, 2) := by decide +kernel
theorem dL_isSo_690 : decode cL_isSo 690 = .ok (.if_icmp .ne 37, 3) := by decide +kernel
theorem dL_isSo_693 : decode cL_isSo 693 = .ok (.aload_n 0, 1) := by decide +kernel
theorem dL_isSo_694 : decode cL_isSo 694 = .ok (.iconst 3, 1) := by decide +kernel
theorem dL_isSo_695 : decode cL_isSo 695 = .ok (.invokevirtual 28, 3) := by decide +kernel
theorem dL_isSo_698 : decode cL_isSo 698 = .ok (.ifCond .ne 29, 3) := by decide +kernel
theorem dL_isSo_701 : decode cL_isSo 701 = .ok (.aload_n 0, 1) := by decide +kernel
theorem dL_isSo_702 : decode cL_isSo 702 = .ok (.iconst 0, 1) := by decide +kernel
theorem dL_isSo_703 : decode cL_isSo 703 = .ok (.invokevirtual 124, 3) := by decide +kernel
theorem dL_isSo_706 : decode cL_isSo 706 = .ok (.dconst 0, 1) := by decide +kernel
theorem dL_isSo_707 : decode cL_isSo 707 = .ok (.dcmp .l, 1) := by decide +kernel
theorem dL_isSo_708 : decode cL_isSo 708 = .ok (.ifCond .lt 19, 3) := by decide +kernel
theorem dL_isSo_711 : decode cL_isSo 711 = .ok (.aload_n 0, 1) := by decide +kernel
theorem dL_isSo_712 : decode cL_isSo 712 = .ok (.iconst 0, 1) := by decide +kernel
theorem dL_isSo_713 : decode cL_isSo 713 = .ok (.invokevirtual 124, 3) := by decide +kernel
theorem dL_isSo_716 : decode cL_isSo 716 = .ok (.ldc2_w 128, 3) := by decide +kernel
theorem dL_isSo_719 : decode cL_isSo 719 = .ok (.dcmp .g, 1) := by decide +kernel
theorem dL_isSo_720 : decode cL_isSo 720 = .ok (.ifCond .gt 7, 3) := by decide +kernel
theorem dL_isSo_723 : decode cL_isSo 723 = .ok (.iconst 1, 1) := by decide +kernel
theorem dL_isSo_724 : decode cL_isSo 724 = .ok (.goto 4, 3) := by decide +kernel
theorem dL_isSo_727 : decode cL_isSo 727 = .ok (.iconst 0, 1) := by decide +kernel
theorem dL_isSo_728 : decode cL_isSo 728 = .ok (.ireturn, 1) := by decide +kernel
