theorem dL_refuses_412 : decode cL_refuses 412 = .ok (.iload 9, 2) := by decide +kernel
theorem dL_refuses_414 : decode cL_refuses 414 = .ok (.iconst 0, 1) := by decide +kernel
theorem dL_refuses_415 : decode cL_refuses 415 = .ok (.invokestatic 119, 3) := by decide +kernel
theorem dL_refuses_418 : decode cL_refuses 418 = .ok (.ldc 15, 2) := by decide +kernel
theorem dL_refuses_420 : decode cL_refuses 420 = .ok (.if_icmp .ne 167, 3) := by decide +kernel
theorem dL_refuses_423 : decode cL_refuses 423 = .ok (.aload_n 0, 1) := by decide +kernel
theorem dL_refuses_424 : decode cL_refuses 424 = .ok (.iload 5, 2) := by decide +kernel
theorem dL_refuses_426 : decode cL_refuses 426 = .ok (.iconst 0, 1) := by decide +kernel
theorem dL_refuses_427 : decode cL_refuses 427 = .ok (.invokestatic 121, 3) := by decide +kernel
theorem dL_refuses_430 : decode cL_refuses 430 = .ok (.ldc 15, 2) := by decide +kernel
theorem dL_refuses_432 : decode cL_refuses 432 = .ok (.if_icmp .ne 155, 3) := by decide +kernel
theorem dL_refuses_435 : decode cL_refuses 435 = .ok (.aload_n 0, 1) := by decide +kernel
theorem dL_refuses_436 : decode cL_refuses 436 = .ok (.iload 5, 2) := by decide +kernel
theorem dL_refuses_438 : decode cL_refuses 438 = .ok (.iconst 0, 1) := by decide +kernel
theorem dL_refuses_439 : decode cL_refuses 439 = .ok (.invokestatic 123, 3) := by decide +kernel
theorem dL_refuses_442 : decode cL_refuses 442 = .ok (.ldc 15, 2) := by decide +kernel
theorem dL_refuses_444 : decode cL_refuses 444 = .ok (.if_icmp .ne 143, 3) := by decide +kernel
theorem dL_refuses_447 : decode cL_refuses 447 = .ok (.aload_n 0, 1) := by decide +kernel
theorem dL_refuses_448 : decode cL_refuses 448 = .ok (.iload 5, 2) := by decide +kernel
theorem dL_refuses_450 : decode cL_refuses 450 = .ok (.iconst 0, 1) := by decide +kernel
theorem dL_refuses_451 : decode cL_refuses 451 = .ok (.invokestatic 125, 3) := by decide +kernel
theorem dL_refuses_454 : decode cL_refuses 454 = .ok (.ldc 15, 2) := by decide +kernel
theorem dL_refuses_456 : decode cL_refuses 456 = .ok (.if_icmp .ne 131, 3) := by decide +kernel
theorem dL_refuses_459 : decode cL_refuses 459 = .ok (.aload_n 0, 1) := by decide +kernel
theorem dL_refuses_460 : decode cL_refuses 460 = .ok (.iload 6, 2) := by decide +kernel
theorem dL_refuses_462 : decode cL_refuses 462 = .ok (.iconst 0, 1) := by decide +kernel
theorem dL_refuses_463 : decode cL_refuses 463 = .ok (.invokestatic 127, 3) := by decide +kernel
theorem dL_refuses_466 : decode cL_refuses 466 = .ok (.ldc 15, 2) := by decide +kernel
theorem dL_refuses_468 : decode cL_refuses 468 = .ok (.if_icmp .ne 119, 3) := by decide +kernel
theorem dL_refuses_471 : decode cL_refuses 471 = .ok (.aload_n 0, 1) := by decide +kernel
theorem dL_refuses_472 : decode cL_refuses 472 = .ok (.iload 8, 2) := by decide +kernel
theorem dL_refuses_474 : decode cL_refuses 474 = .ok (.invokestatic 129, 3) := by decide +kernel
theorem dL_refuses_477 : decode cL_refuses 477 = .ok (.ldc 15, 2) := by decide +kernel
theorem dL_refuses_479 : decode cL_refuses 479 = .ok (.if_icmp .ne 108, 3) := by decide +kernel
theorem dL_refuses_482 : decode cL_refuses 482 = .ok (.aload_n 0, 1) := by decide +kernel
theorem dL_refuses_483 : decode cL_refuses 483 = .ok (.iload 8, 2) := by decide +kernel
theorem dL_refuses_485 : decode cL_refuses 485 = .ok (.invokestatic 131, 3) := by decide +kernel
theorem dL_refuses_488 : decode cL_refuses 488 = .ok (.ldc 15, 2) := by decide +kernel
theorem dL_refuses_490 : decode cL_refuses 490 = .ok (.if_icmp .ne 97, 3) := by decide +kernel
theorem dL_refuses_493 : decode cL_refuses 493 = .ok (.aload_n 0, 1) := by decide +kernel
theorem dL_refuses_494 : decode cL_refuses 494 = .ok (.iload 8, 2) := by decide +kernel
theorem dL_refuses_496 : decode cL_refuses 496 = .ok (.invokestatic 134, 3) := by decide +kernel
theorem dL_refuses_499 : decode cL_refuses 499 = .ok (.ldc 15, 2) := by decide +kernel
theorem dL_refuses_501 : decode cL_refuses 501 = .ok (.if_icmp .ne 86, 3) := by decide +kernel
theorem dL_refuses_504 : decode cL_refuses 504 = .ok (.aload_n 0, 1) := by decide +kernel
theorem dL_refuses_505 : decode cL_refuses 505 = .ok (.iload 4, 2) := by decide +kernel
theorem dL_refuses_507 : decode cL_refuses 507 = .ok (.invokestatic 136, 3) := by decide +kernel
theorem dL_refuses_510 : decode cL_refuses 510 = .ok (.ldc 15, 2) := by decide +kernel
theorem dL_refuses_512 : decode cL_refuses 512 = .ok (.if_icmp .ne 75, 3) := by decide +kernel
theorem dL_refuses_515 : decode cL_refuses 515 = .ok (.aload_n 0, 1) := by decide +kernel
theorem dL_refuses_516 : decode cL_refuses 516 = .ok (.invokevirtual 86, 3) := by decide +kernel
theorem dL_refuses_519 : decode cL_refuses 519 = .ok (.ifCond .eq 31, 3) := by decide +kernel
theorem dL_refuses_522 : decode cL_refuses 522 = .ok (.aload_n 0, 1) := by decide +kernel
theorem dL_refuses_523 : decode cL_refuses 523 = .ok (.iload_n 2, 1) := by decide +kernel
theorem dL_refuses_524 : decode cL_refuses 524 = .ok (.aload_n 0, 1) := by decide +kernel
theorem dL_refuses_525 : decode cL_refuses 525 = .ok (.invokevirtual 86, 3) := by decide +kernel
theorem dL_refuses_528 : decode cL_refuses 528 = .ok (.irem, 1) := by decide +kernel
theorem dL_refuses_529 : decode cL_refuses 529 = .ok (.iload_n 3, 1) := by decide +kernel
theorem dL_refuses_530 : decode cL_refuses 530 = .ok (.ifCond .eq 9, 3) := by decide +kernel
theorem dL_refuses_533 : decode cL_refuses 533 = .ok (.iconst (-1), 1) := by decide +kernel
theorem dL_refuses_534 : decode cL_refuses 534 = .ok (.iload_n 2, 1) := by decide +kernel
theorem dL_refuses_535 : decode cL_refuses 535 = .ok (.isub, 1) := by decide +kernel
theorem dL_refuses_536 : decode cL_refuses 536 = .ok (.goto 6, 3) := by decide +kernel
theorem dL_refuses_539 : decode cL_refuses 539 = .ok (.iconst 3, 1) := by decide +kernel
theorem dL_refuses_540 : decode cL_refuses 540 = .ok (.iload_n 2, 1) := by decide +kernel
theorem dL_refuses_541 : decode cL_refuses 541 = .ok (.iadd, 1) := by decide +kernel
theorem dL_refuses_542 : decode cL_refuses 542 = .ok (.invokestatic 119, 3) := by decide +kernel
theorem dL_refuses_545 : decode cL_refuses 545 = .ok (.ldc 18, 2) := by decide +kernel
theorem dL_refuses_547 : decode cL_refuses 547 = .ok (.if_icmp .ne 40, 3) := by decide +kernel
theorem dL_refuses_550 : decode cL_refuses 550 = .ok (.aload_n 1, 1) := by decide +kernel
theorem dL_refuses_551 : decode cL_refuses 551 = .ok (.iconst 1, 1) := by decide +kernel
theorem dL_refuses_552 : decode cL_refuses 552 = .ok (.iaload, 1) := by decide +kernel
theorem dL_refuses_553 : decode cL_refuses 553 = .ok (.ifCond .eq 30, 3) := by decide +kernel
theorem dL_refuses_556 : decode cL_refuses 556 = .ok (.aload_n 0, 1) := by decide +kernel
theorem dL_refuses_557 : decode cL_refuses 557 = .ok (.iload_n 2, 1) := by decide +kernel
theorem dL_refuses_558 : decode cL_refuses 558 = .ok (.aload_n 1, 1) := by decide +kernel
theorem dL_refuses_559 : decode cL_refuses 559 = .ok (.iconst 1, 1) := by decide +kernel
theorem dL_refuses_560 : decode cL_refuses 560 = .ok (.iaload, 1) := by decide +kernel
theorem dL_refuses_561 : decode cL_refuses 561 = .ok (.irem, 1) := by decide +kernel
theorem dL_refuses_562 : decode cL_refuses 562 = .ok (.iload_n 3, 1) := by decide +kernel
theorem dL_refuses_563 : decode cL_refuses 563 = .ok (.ifCond .eq 9, 3) := by decide +kernel
theorem dL_refuses_566 : decode cL_refuses 566 = .ok (.iconst (-1), 1) := by decide +kernel
theorem dL_refuses_567 : decode cL_refuses 567 = .ok (.iload_n 2, 1) := by decide +kernel
theorem dL_refuses_568 : decode cL_refuses 568 = .ok (.isub, 1) := by decide +kernel
theorem dL_refuses_569 : decode cL_refuses 569 = .ok (.goto 6, 3) := by decide +kernel
theorem dL_refuses_572 : decode cL_refuses 572 = .ok (.iconst 2, 1) := by decide +kernel
theorem dL_refuses_573 : decode cL_refuses 573 = .ok (.iload_n 2, 1) := by decide +kernel
theorem dL_refuses_574 : decode cL_refuses 574 = .ok (.iadd, 1) := by decide +kernel
theorem dL_refuses_575 : decode cL_refuses 575 = .ok (.invokestatic 127, 3) := by decide +kernel
theorem dL_refuses_578 : decode cL_refuses 578 = .ok (.ldc 18, 2) := by decide +kernel
theorem dL_refuses_580 : decode cL_refuses 580 = .ok (.if_icmp .ne 7, 3) := by decide +kernel
theorem dL_refuses_583 : decode cL_refuses 583 = .ok (.iconst 1, 1) := by decide +kernel
theorem dL_refuses_584 : decode cL_refuses 584 = .ok (.goto 4, 3) := by decide +kernel
theorem dL_refuses_587 : decode cL_refuses 587 = .ok (.iconst 0, 1) := by decide +kernel
theorem dL_refuses_588 : decode cL_refuses 588 = .ok (.istore 10, 2) := by decide +kernel
theorem dL_refuses_590 : decode cL_refuses 590 = .ok (.aload_n 1, 1) := by decide +kernel
theorem dL_refuses_591 : decode cL_refuses 591 = .ok (.iconst 0, 1) := by decide +kernel
theorem dL_refuses_592 : decode cL_refuses 592 = .ok (.iaload, 1) := by decide +kernel
theorem dL_refuses_593 : decode cL_refuses 593 = .ok (.ifCond .le 211, 3) := by decide +kernel
theorem dL_refuses_596 : decode cL_refuses 596 = .ok (.iload 10, 2) := by decide +kernel
theorem dL_refuses_598 : decode cL_refuses 598 = .ok (.ifCond .eq 206, 3) := by decide +kernel
theorem dL_refuses_601 : decode cL_refuses 601 = .ok (.iload_n 2, 1) := by decide +kernel
theorem dL_refuses_602 : decode cL_refuses 602 = .ok (.iconst 3, 1) := by decide +kernel
theorem dL_refuses_603 : decode cL_refuses 603 = .ok (.idiv, 1) := by decide +kernel
theorem dL_refuses_604 : decode cL_refuses 604 = .ok (.aload_n 1, 1) := by decide +kernel
theorem dL_refuses_605 : decode cL_refuses 605 = .ok (.iconst 0, 1) := by decide +kernel
theorem dL_refuses_606 : decode cL_refuses 606 = .ok (.iaload, 1) := by decide +kernel
theorem dL_refuses_607 : decode cL_refuses 607 = .ok (.irem, 1) := by decide +kernel
theorem dL_refuses_608 : decode cL_refuses 608 = .ok (.istore 11, 2) := by decide +kernel
theorem dL_refuses_610 : decode cL_refuses 610 = .ok (.aload_n 0, 1) := by decide +kernel
theorem dL_refuses_611 : decode cL_refuses 611 = .ok (.iload 11, 2) := by decide +kernel
theorem dL_refuses_613 : decode cL_refuses 613 = .ok (.iconst 1, 1) := by decide +kernel
theorem dL_refuses_614 : decode cL_refuses 614 = .ok (.invokestatic 125, 3) := by decide +kernel
theorem dL_refuses_617 : decode cL_refuses 617 = .ok (.istore 12, 2) := by decide +kernel
theorem dL_refuses_619 : decode cL_refuses 619 = .ok (.aload_n 0, 1) := by decide +kernel
theorem dL_refuses_620 : decode cL_refuses 620 = .ok (.iload 11, 2) := by decide +kernel
theorem dL_refuses_622 : decode cL_refuses 622 = .ok (.iconst 0, 1) := by decide +kernel
theorem dL_refuses_623 : decode cL_refuses 623 = .ok (.invokestatic 125, 3) := by decide +kernel
theorem dL_refuses_626 : decode cL_refuses 626 = .ok (.ifCond .ne 7, 3) := by decide +kernel
theorem dL_refuses_629 : decode cL_refuses 629 = .ok (.iconst 1, 1) := by decide +kernel
theorem dL_refuses_630 : decode cL_refuses 630 = .ok (.goto 4, 3) := by decide +kernel
theorem dL_refuses_633 : decode cL_refuses 633 = .ok (.iconst 0, 1) := by decide +kernel
theorem dL_refuses_634 : decode cL_refuses 634 = .ok (.istore 13, 2) := by decide +kernel
theorem dL_refuses_636 : decode cL_refuses 636 = .ok (.aload_n 0, 1) := by decide +kernel
theorem dL_refuses_637 : decode cL_refuses 637 = .ok (.iload 11, 2) := by decide +kernel
theorem dL_refuses_639 : decode cL_refuses 639 = .ok (.iload 4, 2) := by decide +kernel
theorem dL_refuses_641 : decode cL_refuses 641 = .ok (.iconst 1, 1) := by decide +kernel
theorem dL_refuses_642 : decode cL_refuses 642 = .ok (.invokestatic 108, 3) := by decide +kernel
theorem dL_refuses_645 : decode cL_refuses 645 = .ok (.ldc 15, 2) := by decide +kernel
theorem dL_refuses_647 : decode cL_refuses 647 = .ok (.if_icmp .ne 154, 3) := by decide +kernel
theorem dL_refuses_650 : decode cL_refuses 650 = .ok (.aload_n 0, 1) := by decide +kernel
theorem dL_refuses_651 : decode cL_refuses 651 = .ok (.iload 11, 2) := by decide +kernel
theorem dL_refuses_653 : decode cL_refuses 653 = .ok (.iload 12, 2) := by decide +kernel
theorem dL_refuses_655 : decode cL_refuses 655 = .ok (.iload_n 3, 1) := by decide +kernel
theorem dL_refuses_656 : decode cL_refuses 656 = .ok (.ifCond .eq 8, 3) := by decide +kernel
theorem dL_refuses_659 : decode cL_refuses 659 = .ok (.iload_n 2, 1) := by decide +kernel
theorem dL_refuses_660 : decode cL_refuses 660 = .ok (.ineg, 1) := by decide +kernel
theorem dL_refuses_661 : decode cL_refuses 661 = .ok (.goto 7, 3) := by decide +kernel
theorem dL_refuses_664 : decode cL_refuses 664 = .ok (.bipush 10, 2) := by decide +kernel
theorem dL_refuses_666 : decode cL_refuses 666 = .ok (.iload_n 2, 1) := by decide +kernel
theorem dL_refuses_667 : decode cL_refuses 667 = .ok (.iadd, 1) := by decide +kernel
theorem dL_refuses_668 : decode cL_refuses 668 = .ok (.invokestatic 108, 3) := by decide +kernel
theorem dL_refuses_671 : decode cL_refuses 671 = .ok (.ldc 18, 2) := by decide +kernel
theorem dL_refuses_673 : decode cL_refuses 673 = .ok (.if_icmp .ne 128, 3) := by decide +kernel
theorem dL_refuses_676 : decode cL_refuses 676 = .ok (.aload_n 0, 1) := by decide +kernel
theorem dL_refuses_677 : decode cL_refuses 677 = .ok (.iload 11, 2) := by decide +kernel
theorem dL_refuses_679 : decode cL_refuses 679 = .ok (.iload 4, 2) := by decide +kernel
theorem dL_refuses_681 : decode cL_refuses 681 = .ok (.invokestatic 121, 3) := by decide +kernel
theorem dL_refuses_684 : decode cL_refuses 684 = .ok (.ldc 15, 2) := by decide +kernel
theorem dL_refuses_686 : decode cL_refuses 686 = .ok (.if_icmp .ne 115, 3) := by decide +kernel
theorem dL_refuses_689 : decode cL_refuses 689 = .ok (.aload_n 0, 1) := by decide +kernel
theorem dL_refuses_690 : decode cL_refuses 690 = .ok (.iload 11, 2) := by decide +kernel
theorem dL_refuses_692 : decode cL_refuses 692 = .ok (.iload_n 3, 1) := by decide +kernel
theorem dL_refuses_693 : decode cL_refuses 693 = .ok (.ifCond .eq 9, 3) := by decide +kernel
theorem dL_refuses_696 : decode cL_refuses 696 = .ok (.iconst (-1), 1) := by decide +kernel
theorem dL_refuses_697 : decode cL_refuses 697 = .ok (.iload_n 2, 1) := by decide +kernel
theorem dL_refuses_698 : decode cL_refuses 698 = .ok (.isub, 1) := by decide +kernel
theorem dL_refuses_699 : decode cL_refuses 699 = .ok (.goto 6, 3) := by decide +kernel
theorem dL_refuses_702 : decode cL_refuses 702 = .ok (.iconst 5, 1) := by decide +kernel
theorem dL_refuses_703 : decode cL_refuses 703 = .ok (.iload_n 2, 1) := by decide +kernel
theorem dL_refuses_704 : decode cL_refuses 704 = .ok (.iadd, 1) := by decide +kernel
theorem dL_refuses_705 : decode cL_refuses 705 = .ok (.invokestatic 125, 3) := by decide +kernel
theorem dL_refuses_708 : decode cL_refuses 708 = .ok (.ldc 18, 2) := by decide +kernel
theorem dL_refuses_710 : decode cL_refuses 710 = .ok (.if_icmp .ne 91, 3) := by decide +kernel
theorem dL_refuses_713 : decode cL_refuses 713 = .ok (.iload 13, 2) := by decide +kernel
theorem dL_refuses_715 : decode cL_refuses 715 = .ok (.ifCond .eq 35, 3) := by decide +kernel
theorem dL_refuses_718 : decode cL_refuses 718 = .ok (.aload_n 0, 1) := by decide +kernel
theorem dL_refuses_719 : decode cL_refuses 719 = .ok (.iload 12, 2) := by decide +kernel
theorem dL_refuses_721 : decode cL_refuses 721 = .ok (.iload 12, 2) := by decide +kernel
theorem dL_refuses_723 : decode cL_refuses 723 = .ok (.iconst 1, 1) := by decide +kernel
theorem dL_refuses_724 : decode cL_refuses 724 = .ok (.iadd, 1) := by decide +kernel
theorem dL_refuses_725 : decode cL_refuses 725 = .ok (.bipush 10, 2) := by decide +kernel
theorem dL_refuses_727 : decode cL_refuses 727 = .ok (.irem, 1) := by decide +kernel
theorem dL_refuses_728 : decode cL_refuses 728 = .ok (.invokestatic 95, 3) := by decide +kernel
theorem dL_refuses_731 : decode cL_refuses 731 = .ok (.ldc 24, 2) := by decide +kernel
theorem dL_refuses_733 : decode cL_refuses 733 = .ok (.if_icmp .ne 68, 3) := by decide +kernel
theorem dL_refuses_736 : decode cL_refuses 736 = .ok (.aload_n 0, 1) := by decide +kernel
theorem dL_refuses_737 : decode cL_refuses 737 = .ok (.iload 11, 2) := by decide +kernel
theorem dL_refuses_739 : decode cL_refuses 739 = .ok (.invokestatic 100, 3) := by decide +kernel
theorem dL_refuses_742 : decode cL_refuses 742 = .ok (.ldc 24, 2) := by decide +kernel
theorem dL_refuses_744 : decode cL_refuses 744 = .ok (.if_icmp .ne 57, 3) := by decide +kernel
theorem dL_refuses_747 : decode cL_refuses 747 = .ok (.goto 28, 3) := by decide +kernel
theorem dL_refuses_750 : decode cL_refuses 750 = .ok (.aload_n 0, 1) := by decide +kernel
theorem dL_refuses_751 : decode cL_refuses 751 = .ok (.iload 11, 2) := by decide +kernel
theorem dL_refuses_753 : decode cL_refuses 753 = .ok (.invokestatic 97, 3) := by decide +kernel
theorem dL_refuses_756 : decode cL_refuses 756 = .ok (.ldc 24, 2) := by decide +kernel
theorem dL_refuses_758 : decode cL_refuses 758 = .ok (.if_icmp .ne 43, 3) := by decide +kernel
theorem dL_refuses_761 : decode cL_refuses 761 = .ok (.aload_n 0, 1) := by decide +kernel
theorem dL_refuses_762 : decode cL_refuses 762 = .ok (.iload 11, 2) := by decide +kernel
theorem dL_refuses_764 : decode cL_refuses 764 = .ok (.iload 12, 2) := by decide +kernel
theorem dL_refuses_766 : decode cL_refuses 766 = .ok (.iconst 1, 1) := by decide +kernel
theorem dL_refuses_767 : decode cL_refuses 767 = .ok (.invokestatic 108, 3) := by decide +kernel
theorem dL_refuses_770 : decode cL_refuses 770 = .ok (.ldc 24, 2) := by decide +kernel
theorem dL_refuses_772 : decode cL_refuses 772 = .ok (.if_icmp .ne 29, 3) := by decide +kernel
theorem dL_refuses_775 : decode cL_refuses 775 = .ok (.aload_n 0, 1) := by decide +kernel
theorem dL_refuses_776 : decode cL_refuses 776 = .ok (.iload 11, 2) := by decide +kernel
theorem dL_refuses_778 : decode cL_refuses 778 = .ok (.iconst 0, 1) := by decide +kernel
theorem dL_refuses_779 : decode cL_refuses 779 = .ok (.invokestatic 125, 3) := by decide +kernel
theorem dL_refuses_782 : decode cL_refuses 782 = .ok (.iconst 2, 1) := by decide +kernel
theorem dL_refuses_783 : decode cL_refuses 783 = .ok (.if_icmp .ne 14, 3) := by decide +kernel
theorem dL_refuses_786 : decode cL_refuses 786 = .ok (.aload_n 0, 1) := by decide +kernel
theorem dL_refuses_787 : decode cL_refuses 787 = .ok (.iload 11, 2) := by decide +kernel
theorem dL_refuses_789 : decode cL_refuses 789 = .ok (.invokestatic 100, 3) := by decide +kernel
theorem dL_refuses_792 : decode cL_refuses 792 = .ok (.ldc 24, 2) := by decide +kernel
theorem dL_refuses_794 : decode cL_refuses 794 = .ok (.if_icmp .ne 7, 3) := by decide +kernel
theorem dL_refuses_797 : decode cL_refuses 797 = .ok (.iconst 1, 1) := by decide +kernel
theorem dL_refuses_798 : decode cL_refuses 798 = .ok (.goto 4, 3) := by decide +kernel
theorem dL_refuses_801 : decode cL_refuses 801 = .ok (.iconst 0, 1) := by decide +kernel
theorem dL_refuses_802 : decode cL_refuses 802 = .ok (.istore 10, 2) := by decide +kernel
theorem dL_refuses_804 : decode cL_refuses 804 = .ok (.iload 10, 2) := by decide +kernel
theorem dL_refuses_806 : decode cL_refuses 806 = .ok (.ifCond .eq 40, 3) := by decide +kernel
theorem dL_refuses_809 : decode cL_refuses 809 = .ok (.aload_n 1, 1) := by decide +kernel
theorem dL_refuses_810 : decode cL_refuses 810 = .ok (.iconst 2, 1) := by decide +kernel
theorem dL_refuses_811 : decode cL_refuses 811 = .ok (.iaload, 1) := by decide +kernel
theorem dL_refuses_812 : decode cL_refuses 812 = .ok (.ifCond .eq 30, 3) := by decide +kernel
theorem dL_refuses_815 : decode cL_refuses 815 = .ok (.aload_n 0, 1) := by decide +kernel
theorem dL_refuses_816 : decode cL_refuses 816 = .ok (.iload_n 2, 1) := by decide +kernel
theorem dL_refuses_817 : decode cL_refuses 817 = .ok (.aload_n 1, 1) := by decide +kernel
theorem dL_refuses_818 : decode cL_refuses 818 = .ok (.iconst 2, 1) := by decide +kernel
theorem dL_refuses_819 : decode cL_refuses 819 = .ok (.iaload, 1) := by decide +kernel
theorem dL_refuses_820 : decode cL_refuses 820 = .ok (.irem, 1) := by decide +kernel
theorem dL_refuses_821 : decode cL_refuses 821 = .ok (.iload_n 3, 1) := by decide +kernel
theorem dL_refuses_822 : decode cL_refuses 822 = .ok (.ifCond .eq 8, 3) := by decide +kernel
theorem dL_refuses_825 : decode cL_refuses 825 = .ok (.iload_n 2, 1) := by decide +kernel
theorem dL_refuses_826 : decode cL_refuses 826 = .ok (.ineg, 1) := by decide +kernel
theorem dL_refuses_827 : decode cL_refuses 827 = .ok (.goto 7, 3) := by decide +kernel
theorem dL_refuses_830 : decode cL_refuses 830 = .ok (.bipush 10, 2) := by decide +kernel
theorem dL_refuses_832 : decode cL_refuses 832 = .ok (.iload_n 2, 1) := by decide +kernel
theorem dL_refuses_833 : decode cL_refuses 833 = .ok (.iadd, 1) := by decide +kernel
theorem dL_refuses_834 : decode cL_refuses 834 = .ok (.invokestatic 113, 3) := by decide +kernel
theorem dL_refuses_837 : decode cL_refuses 837 = .ok (.ldc 18, 2) := by decide +kernel
theorem dL_refuses_839 : decode cL_refuses 839 = .ok (.if_icmp .ne 7, 3) := by decide +kernel
theorem dL_refuses_842 : decode cL_refuses 842 = .ok (.iconst 1, 1) := by decide +kernel
theorem dL_refuses_843 : decode cL_refuses 843 = .ok (.goto 4, 3) := by decide +kernel
theorem dL_refuses_846 : decode cL_refuses 846 = .ok (.iconst 0, 1) := by decide +kernel
theorem dL_refuses_847 : decode cL_refuses 847 = .ok (.ireturn, 1) := by decide +kernel
