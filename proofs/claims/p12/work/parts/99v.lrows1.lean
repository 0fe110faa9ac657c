theorem dL_law_481 : decode code 481 = .ok (.pop, 1) := by decide +kernel
theorem dL_law_482 : decode code 482 = .ok (.aload_n 2, 1) := by decide +kernel
theorem dL_law_483 : decode code 483 = .ok (.aload_n 0, 1) := by decide +kernel
theorem dL_law_484 : decode code 484 = .ok (.iload 4, 2) := by decide +kernel
theorem dL_law_486 : decode code 486 = .ok (.iconst 1, 1) := by decide +kernel
theorem dL_law_487 : decode code 487 = .ok (.iadd, 1) := by decide +kernel
theorem dL_law_488 : decode code 488 = .ok (.iaload, 1) := by decide +kernel
theorem dL_law_489 : decode code 489 = .ok (.invokevirtual 57, 3) := by decide +kernel
theorem dL_law_492 : decode code 492 = .ok (.pop, 1) := by decide +kernel
theorem dL_law_493 : decode code 493 = .ok (.goto 938, 3) := by decide +kernel
theorem dL_law_496 : decode code 496 = .ok (.aload_n 1, 1) := by decide +kernel
theorem dL_law_497 : decode code 497 = .ok (.aload_n 0, 1) := by decide +kernel
theorem dL_law_498 : decode code 498 = .ok (.iload 4, 2) := by decide +kernel
theorem dL_law_500 : decode code 500 = .ok (.iconst 1, 1) := by decide +kernel
theorem dL_law_501 : decode code 501 = .ok (.iadd, 1) := by decide +kernel
theorem dL_law_502 : decode code 502 = .ok (.iaload, 1) := by decide +kernel
theorem dL_law_503 : decode code 503 = .ok (.aload_n 0, 1) := by decide +kernel
theorem dL_law_504 : decode code 504 = .ok (.iload 4, 2) := by decide +kernel
theorem dL_law_506 : decode code 506 = .ok (.iconst 2, 1) := by decide +kernel
theorem dL_law_507 : decode code 507 = .ok (.iadd, 1) := by decide +kernel
theorem dL_law_508 : decode code 508 = .ok (.iaload, 1) := by decide +kernel
theorem dL_law_509 : decode code 509 = .ok (.invokevirtual 58, 3) := by decide +kernel
theorem dL_law_512 : decode code 512 = .ok (.pop, 1) := by decide +kernel
theorem dL_law_513 : decode code 513 = .ok (.aload_n 2, 1) := by decide +kernel
theorem dL_law_514 : decode code 514 = .ok (.aload_n 0, 1) := by decide +kernel
theorem dL_law_515 : decode code 515 = .ok (.iload 4, 2) := by decide +kernel
theorem dL_law_517 : decode code 517 = .ok (.iconst 1, 1) := by decide +kernel
theorem dL_law_518 : decode code 518 = .ok (.iadd, 1) := by decide +kernel
theorem dL_law_519 : decode code 519 = .ok (.iaload, 1) := by decide +kernel
theorem dL_law_520 : decode code 520 = .ok (.aload_n 0, 1) := by decide +kernel
theorem dL_law_521 : decode code 521 = .ok (.iload 4, 2) := by decide +kernel
theorem dL_law_523 : decode code 523 = .ok (.iconst 2, 1) := by decide +kernel
theorem dL_law_524 : decode code 524 = .ok (.iadd, 1) := by decide +kernel
theorem dL_law_525 : decode code 525 = .ok (.iaload, 1) := by decide +kernel
theorem dL_law_526 : decode code 526 = .ok (.invokevirtual 61, 3) := by decide +kernel
theorem dL_law_529 : decode code 529 = .ok (.pop, 1) := by decide +kernel
theorem dL_law_530 : decode code 530 = .ok (.goto 901, 3) := by decide +kernel
theorem dL_law_533 : decode code 533 = .ok (.aload_n 1, 1) := by decide +kernel
theorem dL_law_534 : decode code 534 = .ok (.aload_n 0, 1) := by decide +kernel
theorem dL_law_535 : decode code 535 = .ok (.iload 4, 2) := by decide +kernel
theorem dL_law_537 : decode code 537 = .ok (.iconst 1, 1) := by decide +kernel
theorem dL_law_538 : decode code 538 = .ok (.iadd, 1) := by decide +kernel
theorem dL_law_539 : decode code 539 = .ok (.iaload, 1) := by decide +kernel
theorem dL_law_540 : decode code 540 = .ok (.aload_n 0, 1) := by decide +kernel
theorem dL_law_541 : decode code 541 = .ok (.iload 4, 2) := by decide +kernel
theorem dL_law_543 : decode code 543 = .ok (.iconst 2, 1) := by decide +kernel
theorem dL_law_544 : decode code 544 = .ok (.iadd, 1) := by decide +kernel
theorem dL_law_545 : decode code 545 = .ok (.iaload, 1) := by decide +kernel
theorem dL_law_546 : decode code 546 = .ok (.invokevirtual 62, 3) := by decide +kernel
theorem dL_law_549 : decode code 549 = .ok (.pop, 1) := by decide +kernel
theorem dL_law_550 : decode code 550 = .ok (.aload_n 2, 1) := by decide +kernel
theorem dL_law_551 : decode code 551 = .ok (.aload_n 0, 1) := by decide +kernel
theorem dL_law_552 : decode code 552 = .ok (.iload 4, 2) := by decide +kernel
theorem dL_law_554 : decode code 554 = .ok (.iconst 1, 1) := by decide +kernel
theorem dL_law_555 : decode code 555 = .ok (.iadd, 1) := by decide +kernel
theorem dL_law_556 : decode code 556 = .ok (.iaload, 1) := by decide +kernel
theorem dL_law_557 : decode code 557 = .ok (.aload_n 0, 1) := by decide +kernel
theorem dL_law_558 : decode code 558 = .ok (.iload 4, 2) := by decide +kernel
theorem dL_law_560 : decode code 560 = .ok (.iconst 2, 1) := by decide +kernel
theorem dL_law_561 : decode code 561 = .ok (.iadd, 1) := by decide +kernel
theorem dL_law_562 : decode code 562 = .ok (.iaload, 1) := by decide +kernel
theorem dL_law_563 : decode code 563 = .ok (.invokevirtual 65, 3) := by decide +kernel
theorem dL_law_566 : decode code 566 = .ok (.pop, 1) := by decide +kernel
theorem dL_law_567 : decode code 567 = .ok (.goto 864, 3) := by decide +kernel
theorem dL_law_570 : decode code 570 = .ok (.aload_n 1, 1) := by decide +kernel
theorem dL_law_571 : decode code 571 = .ok (.aload_n 0, 1) := by decide +kernel
theorem dL_law_572 : decode code 572 = .ok (.iload 4, 2) := by decide +kernel
theorem dL_law_574 : decode code 574 = .ok (.iconst 1, 1) := by decide +kernel
theorem dL_law_575 : decode code 575 = .ok (.iadd, 1) := by decide +kernel
theorem dL_law_576 : decode code 576 = .ok (.iaload, 1) := by decide +kernel
theorem dL_law_577 : decode code 577 = .ok (.invokevirtual 66, 3) := by decide +kernel
theorem dL_law_580 : decode code 580 = .ok (.pop, 1) := by decide +kernel
theorem dL_law_581 : decode code 581 = .ok (.aload_n 2, 1) := by decide +kernel
theorem dL_law_582 : decode code 582 = .ok (.aload_n 0, 1) := by decide +kernel
theorem dL_law_583 : decode code 583 = .ok (.iload 4, 2) := by decide +kernel
theorem dL_law_585 : decode code 585 = .ok (.iconst 1, 1) := by decide +kernel
theorem dL_law_586 : decode code 586 = .ok (.iadd, 1) := by decide +kernel
theorem dL_law_587 : decode code 587 = .ok (.iaload, 1) := by decide +kernel
theorem dL_law_588 : decode code 588 = .ok (.invokevirtual 69, 3) := by decide +kernel
theorem dL_law_591 : decode code 591 = .ok (.pop, 1) := by decide +kernel
theorem dL_law_592 : decode code 592 = .ok (.goto 839, 3) := by decide +kernel
theorem dL_law_595 : decode code 595 = .ok (.aload_n 1, 1) := by decide +kernel
theorem dL_law_596 : decode code 596 = .ok (.invokevirtual 70, 3) := by decide +kernel
theorem dL_law_599 : decode code 599 = .ok (.aload_n 2, 1) := by decide +kernel
theorem dL_law_600 : decode code 600 = .ok (.invokevirtual 73, 3) := by decide +kernel
theorem dL_law_603 : decode code 603 = .ok (.if_icmp .eq 828, 3) := by decide +kernel
theorem dL_law_606 : decode code 606 = .ok (.iconst 0, 1) := by decide +kernel
theorem dL_law_607 : decode code 607 = .ok (.ireturn, 1) := by decide +kernel
theorem dL_law_608 : decode code 608 = .ok (.aload_n 1, 1) := by decide +kernel
theorem dL_law_609 : decode code 609 = .ok (.aload_n 0, 1) := by decide +kernel
theorem dL_law_610 : decode code 610 = .ok (.iload 4, 2) := by decide +kernel
theorem dL_law_612 : decode code 612 = .ok (.iconst 1, 1) := by decide +kernel
theorem dL_law_613 : decode code 613 = .ok (.iadd, 1) := by decide +kernel
theorem dL_law_614 : decode code 614 = .ok (.iaload, 1) := by decide +kernel
theorem dL_law_615 : decode code 615 = .ok (.aload_n 0, 1) := by decide +kernel
theorem dL_law_616 : decode code 616 = .ok (.iload 4, 2) := by decide +kernel
theorem dL_law_618 : decode code 618 = .ok (.iconst 2, 1) := by decide +kernel
theorem dL_law_619 : decode code 619 = .ok (.iadd, 1) := by decide +kernel
theorem dL_law_620 : decode code 620 = .ok (.iaload, 1) := by decide +kernel
theorem dL_law_621 : decode code 621 = .ok (.invokevirtual 74, 3) := by decide +kernel
theorem dL_law_624 : decode code 624 = .ok (.pop, 1) := by decide +kernel
theorem dL_law_625 : decode code 625 = .ok (.aload_n 2, 1) := by decide +kernel
theorem dL_law_626 : decode code 626 = .ok (.aload_n 0, 1) := by decide +kernel
theorem dL_law_627 : decode code 627 = .ok (.iload 4, 2) := by decide +kernel
theorem dL_law_629 : decode code 629 = .ok (.iconst 1, 1) := by decide +kernel
theorem dL_law_630 : decode code 630 = .ok (.iadd, 1) := by decide +kernel
theorem dL_law_631 : decode code 631 = .ok (.iaload, 1) := by decide +kernel
theorem dL_law_632 : decode code 632 = .ok (.aload_n 0, 1) := by decide +kernel
theorem dL_law_633 : decode code 633 = .ok (.iload 4, 2) := by decide +kernel
theorem dL_law_635 : decode code 635 = .ok (.iconst 2, 1) := by decide +kernel
theorem dL_law_636 : decode code 636 = .ok (.iadd, 1) := by decide +kernel
theorem dL_law_637 : decode code 637 = .ok (.iaload, 1) := by decide +kernel
theorem dL_law_638 : decode code 638 = .ok (.invokevirtual 77, 3) := by decide +kernel
theorem dL_law_641 : decode code 641 = .ok (.pop, 1) := by decide +kernel
theorem dL_law_642 : decode code 642 = .ok (.goto 789, 3) := by decide +kernel
theorem dL_law_645 : decode code 645 = .ok (.aload_n 1, 1) := by decide +kernel
theorem dL_law_646 : decode code 646 = .ok (.aload_n 0, 1) := by decide +kernel
theorem dL_law_647 : decode code 647 = .ok (.iload 4, 2) := by decide +kernel
theorem dL_law_649 : decode code 649 = .ok (.iconst 1, 1) := by decide +kernel
theorem dL_law_650 : decode code 650 = .ok (.iadd, 1) := by decide +kernel
theorem dL_law_651 : decode code 651 = .ok (.iaload, 1) := by decide +kernel
theorem dL_law_652 : decode code 652 = .ok (.invokevirtual 78, 3) := by decide +kernel
theorem dL_law_655 : decode code 655 = .ok (.pop, 1) := by decide +kernel
theorem dL_law_656 : decode code 656 = .ok (.aload_n 2, 1) := by decide +kernel
theorem dL_law_657 : decode code 657 = .ok (.aload_n 0, 1) := by decide +kernel
theorem dL_law_658 : decode code 658 = .ok (.iload 4, 2) := by decide +kernel
theorem dL_law_660 : decode code 660 = .ok (.iconst 1, 1) := by decide +kernel
theorem dL_law_661 : decode code 661 = .ok (.iadd, 1) := by decide +kernel
theorem dL_law_662 : decode code 662 = .ok (.iaload, 1) := by decide +kernel
theorem dL_law_663 : decode code 663 = .ok (.invokevirtual 82, 3) := by decide +kernel
theorem dL_law_666 : decode code 666 = .ok (.pop, 1) := by decide +kernel
theorem dL_law_667 : decode code 667 = .ok (.goto 764, 3) := by decide +kernel
theorem dL_law_670 : decode code 670 = .ok (.aload_n 1, 1) := by decide +kernel
theorem dL_law_671 : decode code 671 = .ok (.aload_n 0, 1) := by decide +kernel
theorem dL_law_672 : decode code 672 = .ok (.iload 4, 2) := by decide +kernel
theorem dL_law_674 : decode code 674 = .ok (.iconst 1, 1) := by decide +kernel
theorem dL_law_675 : decode code 675 = .ok (.iadd, 1) := by decide +kernel
theorem dL_law_676 : decode code 676 = .ok (.iaload, 1) := by decide +kernel
theorem dL_law_677 : decode code 677 = .ok (.invokevirtual 83, 3) := by decide +kernel
theorem dL_law_680 : decode code 680 = .ok (.pop, 1) := by decide +kernel
theorem dL_law_681 : decode code 681 = .ok (.aload_n 2, 1) := by decide +kernel
theorem dL_law_682 : decode code 682 = .ok (.aload_n 0, 1) := by decide +kernel
theorem dL_law_683 : decode code 683 = .ok (.iload 4, 2) := by decide +kernel
theorem dL_law_685 : decode code 685 = .ok (.iconst 1, 1) := by decide +kernel
theorem dL_law_686 : decode code 686 = .ok (.iadd, 1) := by decide +kernel
theorem dL_law_687 : decode code 687 = .ok (.iaload, 1) := by decide +kernel
theorem dL_law_688 : decode code 688 = .ok (.invokevirtual 86, 3) := by decide +kernel
theorem dL_law_691 : decode code 691 = .ok (.pop, 1) := by decide +kernel
theorem dL_law_692 : decode code 692 = .ok (.goto 739, 3) := by decide +kernel
theorem dL_law_695 : decode code 695 = .ok (.aload_n 1, 1) := by decide +kernel
theorem dL_law_696 : decode code 696 = .ok (.invokevirtual 87, 3) := by decide +kernel
theorem dL_law_699 : decode code 699 = .ok (.pop, 1) := by decide +kernel
theorem dL_law_700 : decode code 700 = .ok (.aload_n 2, 1) := by decide +kernel
theorem dL_law_701 : decode code 701 = .ok (.invokevirtual 91, 3) := by decide +kernel
theorem dL_law_704 : decode code 704 = .ok (.pop, 1) := by decide +kernel
theorem dL_law_705 : decode code 705 = .ok (.goto 726, 3) := by decide +kernel
theorem dL_law_708 : decode code 708 = .ok (.aload_n 1, 1) := by decide +kernel
theorem dL_law_709 : decode code 709 = .ok (.aload_n 0, 1) := by decide +kernel
theorem dL_law_710 : decode code 710 = .ok (.iload 4, 2) := by decide +kernel
theorem dL_law_712 : decode code 712 = .ok (.iconst 1, 1) := by decide +kernel
theorem dL_law_713 : decode code 713 = .ok (.iadd, 1) := by decide +kernel
theorem dL_law_714 : decode code 714 = .ok (.iaload, 1) := by decide +kernel
theorem dL_law_715 : decode code 715 = .ok (.invokevirtual 92, 3) := by decide +kernel
theorem dL_law_718 : decode code 718 = .ok (.pop, 1) := by decide +kernel
theorem dL_law_719 : decode code 719 = .ok (.aload_n 2, 1) := by decide +kernel
theorem dL_law_720 : decode code 720 = .ok (.aload_n 0, 1) := by decide +kernel
theorem dL_law_721 : decode code 721 = .ok (.iload 4, 2) := by decide +kernel
theorem dL_law_723 : decode code 723 = .ok (.iconst 1, 1) := by decide +kernel
theorem dL_law_724 : decode code 724 = .ok (.iadd, 1) := by decide +kernel
theorem dL_law_725 : decode code 725 = .ok (.iaload, 1) := by decide +kernel
theorem dL_law_726 : decode code 726 = .ok (.invokevirtual 95, 3) := by decide +kernel
theorem dL_law_729 : decode code 729 = .ok (.pop, 1) := by decide +kernel
theorem dL_law_730 : decode code 730 = .ok (.goto 701, 3) := by decide +kernel
theorem dL_law_733 : decode code 733 = .ok (.aload_n 1, 1) := by decide +kernel
theorem dL_law_734 : decode code 734 = .ok (.aload_n 0, 1) := by decide +kernel
theorem dL_law_735 : decode code 735 = .ok (.iload 4, 2) := by decide +kernel
theorem dL_law_737 : decode code 737 = .ok (.iconst 1, 1) := by decide +kernel
theorem dL_law_738 : decode code 738 = .ok (.iadd, 1) := by decide +kernel
theorem dL_law_739 : decode code 739 = .ok (.iaload, 1) := by decide +kernel
theorem dL_law_740 : decode code 740 = .ok (.aload_n 0, 1) := by decide +kernel
theorem dL_law_741 : decode code 741 = .ok (.iload 4, 2) := by decide +kernel
theorem dL_law_743 : decode code 743 = .ok (.iconst 2, 1) := by decide +kernel
theorem dL_law_744 : decode code 744 = .ok (.iadd, 1) := by decide +kernel
theorem dL_law_745 : decode code 745 = .ok (.iaload, 1) := by decide +kernel
theorem dL_law_746 : decode code 746 = .ok (.invokevirtual 96, 3) := by decide +kernel
theorem dL_law_749 : decode code 749 = .ok (.pop, 1) := by decide +kernel
theorem dL_law_750 : decode code 750 = .ok (.aload_n 2, 1) := by decide +kernel
theorem dL_law_751 : decode code 751 = .ok (.aload_n 0, 1) := by decide +kernel
theorem dL_law_752 : decode code 752 = .ok (.iload 4, 2) := by decide +kernel
theorem dL_law_754 : decode code 754 = .ok (.iconst 1, 1) := by decide +kernel
theorem dL_law_755 : decode code 755 = .ok (.iadd, 1) := by decide +kernel
theorem dL_law_756 : decode code 756 = .ok (.iaload, 1) := by decide +kernel
theorem dL_law_757 : decode code 757 = .ok (.aload_n 0, 1) := by decide +kernel
theorem dL_law_758 : decode code 758 = .ok (.iload 4, 2) := by decide +kernel
theorem dL_law_760 : decode code 760 = .ok (.iconst 2, 1) := by decide +kernel
theorem dL_law_761 : decode code 761 = .ok (.iadd, 1) := by decide +kernel
theorem dL_law_762 : decode code 762 = .ok (.iaload, 1) := by decide +kernel
theorem dL_law_763 : decode code 763 = .ok (.invokevirtual 99, 3) := by decide +kernel
theorem dL_law_766 : decode code 766 = .ok (.pop, 1) := by decide +kernel
theorem dL_law_767 : decode code 767 = .ok (.goto 664, 3) := by decide +kernel
theorem dL_law_770 : decode code 770 = .ok (.aload_n 1, 1) := by decide +kernel
theorem dL_law_771 : decode code 771 = .ok (.aload_n 0, 1) := by decide +kernel
theorem dL_law_772 : decode code 772 = .ok (.iload 4, 2) := by decide +kernel
theorem dL_law_774 : decode code 774 = .ok (.iconst 1, 1) := by decide +kernel
theorem dL_law_775 : decode code 775 = .ok (.iadd, 1) := by decide +kernel
theorem dL_law_776 : decode code 776 = .ok (.iaload, 1) := by decide +kernel
theorem dL_law_777 : decode code 777 = .ok (.invokevirtual 100, 3) := by decide +kernel
theorem dL_law_780 : decode code 780 = .ok (.pop, 1) := by decide +kernel
theorem dL_law_781 : decode code 781 = .ok (.aload_n 2, 1) := by decide +kernel
theorem dL_law_782 : decode code 782 = .ok (.aload_n 0, 1) := by decide +kernel
theorem dL_law_783 : decode code 783 = .ok (.iload 4, 2) := by decide +kernel
theorem dL_law_785 : decode code 785 = .ok (.iconst 1, 1) := by decide +kernel
theorem dL_law_786 : decode code 786 = .ok (.iadd, 1) := by decide +kernel
theorem dL_law_787 : decode code 787 = .ok (.iaload, 1) := by decide +kernel
theorem dL_law_788 : decode code 788 = .ok (.invokevirtual 103, 3) := by decide +kernel
theorem dL_law_791 : decode code 791 = .ok (.pop, 1) := by decide +kernel
theorem dL_law_792 : decode code 792 = .ok (.goto 639, 3) := by decide +kernel
theorem dL_law_795 : decode code 795 = .ok (.aload_n 1, 1) := by decide +kernel
theorem dL_law_796 : decode code 796 = .ok (.aload_n 0, 1) := by decide +kernel
theorem dL_law_797 : decode code 797 = .ok (.iload 4, 2) := by decide +kernel
theorem dL_law_799 : decode code 799 = .ok (.iconst 1, 1) := by decide +kernel
theorem dL_law_800 : decode code 800 = .ok (.iadd, 1) := by decide +kernel
theorem dL_law_801 : decode code 801 = .ok (.iaload, 1) := by decide +kernel
theorem dL_law_802 : decode code 802 = .ok (.invokevirtual 104, 3) := by decide +kernel
theorem dL_law_805 : decode code 805 = .ok (.pop, 1) := by decide +kernel
theorem dL_law_806 : decode code 806 = .ok (.aload_n 2, 1) := by decide +kernel
theorem dL_law_807 : decode code 807 = .ok (.aload_n 0, 1) := by decide +kernel
