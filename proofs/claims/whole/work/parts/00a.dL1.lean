-- DECODE ROWS
theorem dL_law_437 : decode code 437 = .ok (.iaload, 1) := by decide +kernel
theorem dL_law_438 : decode code 438 = .ok (.aload_n 0, 1) := by decide +kernel
theorem dL_law_439 : decode code 439 = .ok (.iload 4, 2) := by decide +kernel
theorem dL_law_441 : decode code 441 = .ok (.iconst 2, 1) := by decide +kernel
theorem dL_law_442 : decode code 442 = .ok (.iadd, 1) := by decide +kernel
theorem dL_law_443 : decode code 443 = .ok (.iaload, 1) := by decide +kernel
theorem dL_law_444 : decode code 444 = .ok (.invokevirtual 86, 3) := by decide +kernel
theorem dL_law_447 : decode code 447 = .ok (.istore 6, 2) := by decide +kernel
theorem dL_law_449 : decode code 449 = .ok (.aload_n 2, 1) := by decide +kernel
theorem dL_law_450 : decode code 450 = .ok (.invokevirtual 70, 3) := by decide +kernel
theorem dL_law_453 : decode code 453 = .ok (.iload 5, 2) := by decide +kernel
theorem dL_law_455 : decode code 455 = .ok (.if_icmp .eq 5, 3) := by decide +kernel
theorem dL_law_458 : decode code 458 = .ok (.iconst 0, 1) := by decide +kernel
theorem dL_law_459 : decode code 459 = .ok (.ireturn, 1) := by decide +kernel
theorem dL_law_460 : decode code 460 = .ok (.iload 5, 2) := by decide +kernel
theorem dL_law_462 : decode code 462 = .ok (.ifCond .ne 15, 3) := by decide +kernel
theorem dL_law_465 : decode code 465 = .ok (.aload_n 3, 1) := by decide +kernel
theorem dL_law_466 : decode code 466 = .ok (.iconst 0, 1) := by decide +kernel
theorem dL_law_467 : decode code 467 = .ok (.laload, 1) := by decide +kernel
theorem dL_law_468 : decode code 468 = .ok (.iload 6, 2) := by decide +kernel
theorem dL_law_470 : decode code 470 = .ok (.i2l, 1) := by decide +kernel
theorem dL_law_471 : decode code 471 = .ok (.lcmp, 1) := by decide +kernel
theorem dL_law_472 : decode code 472 = .ok (.ifCond .eq 5, 3) := by decide +kernel
theorem dL_law_475 : decode code 475 = .ok (.iconst 0, 1) := by decide +kernel
theorem dL_law_476 : decode code 476 = .ok (.ireturn, 1) := by decide +kernel
theorem dL_law_477 : decode code 477 = .ok (.goto 572, 3) := by decide +kernel
theorem dL_law_480 : decode code 480 = .ok (.aload_n 1, 1) := by decide +kernel
theorem dL_law_481 : decode code 481 = .ok (.aload_n 0, 1) := by decide +kernel
theorem dL_law_482 : decode code 482 = .ok (.iload 4, 2) := by decide +kernel
theorem dL_law_484 : decode code 484 = .ok (.iconst 1, 1) := by decide +kernel
theorem dL_law_485 : decode code 485 = .ok (.iadd, 1) := by decide +kernel
theorem dL_law_486 : decode code 486 = .ok (.iaload, 1) := by decide +kernel
theorem dL_law_487 : decode code 487 = .ok (.aload_n 3, 1) := by decide +kernel
theorem dL_law_488 : decode code 488 = .ok (.invokestatic 87, 3) := by decide +kernel
theorem dL_law_491 : decode code 491 = .ok (.istore 5, 2) := by decide +kernel
theorem dL_law_493 : decode code 493 = .ok (.aload_n 2, 1) := by decide +kernel
theorem dL_law_494 : decode code 494 = .ok (.aload_n 0, 1) := by decide +kernel
theorem dL_law_495 : decode code 495 = .ok (.iload 4, 2) := by decide +kernel
theorem dL_law_497 : decode code 497 = .ok (.iconst 1, 1) := by decide +kernel
theorem dL_law_498 : decode code 498 = .ok (.iadd, 1) := by decide +kernel
theorem dL_law_499 : decode code 499 = .ok (.iaload, 1) := by decide +kernel
theorem dL_law_500 : decode code 500 = .ok (.invokevirtual 90, 3) := by decide +kernel
theorem dL_law_503 : decode code 503 = .ok (.lstore 6, 2) := by decide +kernel
theorem dL_law_505 : decode code 505 = .ok (.aload_n 2, 1) := by decide +kernel
theorem dL_law_506 : decode code 506 = .ok (.invokevirtual 70, 3) := by decide +kernel
theorem dL_law_509 : decode code 509 = .ok (.iload 5, 2) := by decide +kernel
theorem dL_law_511 : decode code 511 = .ok (.if_icmp .eq 5, 3) := by decide +kernel
theorem dL_law_514 : decode code 514 = .ok (.iconst 0, 1) := by decide +kernel
theorem dL_law_515 : decode code 515 = .ok (.ireturn, 1) := by decide +kernel
theorem dL_law_516 : decode code 516 = .ok (.iload 5, 2) := by decide +kernel
theorem dL_law_518 : decode code 518 = .ok (.ifCond .ne 14, 3) := by decide +kernel
theorem dL_law_521 : decode code 521 = .ok (.aload_n 3, 1) := by decide +kernel
theorem dL_law_522 : decode code 522 = .ok (.iconst 0, 1) := by decide +kernel
theorem dL_law_523 : decode code 523 = .ok (.laload, 1) := by decide +kernel
theorem dL_law_524 : decode code 524 = .ok (.lload 6, 2) := by decide +kernel
theorem dL_law_526 : decode code 526 = .ok (.lcmp, 1) := by decide +kernel
theorem dL_law_527 : decode code 527 = .ok (.ifCond .eq 5, 3) := by decide +kernel
theorem dL_law_530 : decode code 530 = .ok (.iconst 0, 1) := by decide +kernel
theorem dL_law_531 : decode code 531 = .ok (.ireturn, 1) := by decide +kernel
theorem dL_law_532 : decode code 532 = .ok (.goto 517, 3) := by decide +kernel
theorem dL_law_535 : decode code 535 = .ok (.aload_n 1, 1) := by decide +kernel
theorem dL_law_536 : decode code 536 = .ok (.aload_n 0, 1) := by decide +kernel
theorem dL_law_537 : decode code 537 = .ok (.iload 4, 2) := by decide +kernel
theorem dL_law_539 : decode code 539 = .ok (.iconst 1, 1) := by decide +kernel
theorem dL_law_540 : decode code 540 = .ok (.iadd, 1) := by decide +kernel
theorem dL_law_541 : decode code 541 = .ok (.iaload, 1) := by decide +kernel
theorem dL_law_542 : decode code 542 = .ok (.aload_n 0, 1) := by decide +kernel
theorem dL_law_543 : decode code 543 = .ok (.iload 4, 2) := by decide +kernel
theorem dL_law_545 : decode code 545 = .ok (.iconst 2, 1) := by decide +kernel
theorem dL_law_546 : decode code 546 = .ok (.iadd, 1) := by decide +kernel
theorem dL_law_547 : decode code 547 = .ok (.iaload, 1) := by decide +kernel
theorem dL_law_548 : decode code 548 = .ok (.aload_n 0, 1) := by decide +kernel
theorem dL_law_549 : decode code 549 = .ok (.iload 4, 2) := by decide +kernel
theorem dL_law_551 : decode code 551 = .ok (.iconst 3, 1) := by decide +kernel
theorem dL_law_552 : decode code 552 = .ok (.iadd, 1) := by decide +kernel
theorem dL_law_553 : decode code 553 = .ok (.iaload, 1) := by decide +kernel
theorem dL_law_554 : decode code 554 = .ok (.aload_n 3, 1) := by decide +kernel
theorem dL_law_555 : decode code 555 = .ok (.invokestatic 91, 3) := by decide +kernel
theorem dL_law_558 : decode code 558 = .ok (.istore 5, 2) := by decide +kernel
theorem dL_law_560 : decode code 560 = .ok (.aload_n 2, 1) := by decide +kernel
theorem dL_law_561 : decode code 561 = .ok (.aload_n 0, 1) := by decide +kernel
theorem dL_law_562 : decode code 562 = .ok (.iload 4, 2) := by decide +kernel
theorem dL_law_564 : decode code 564 = .ok (.iconst 1, 1) := by decide +kernel
theorem dL_law_565 : decode code 565 = .ok (.iadd, 1) := by decide +kernel
theorem dL_law_566 : decode code 566 = .ok (.iaload, 1) := by decide +kernel
theorem dL_law_567 : decode code 567 = .ok (.aload_n 0, 1) := by decide +kernel
theorem dL_law_568 : decode code 568 = .ok (.iload 4, 2) := by decide +kernel
theorem dL_law_570 : decode code 570 = .ok (.iconst 2, 1) := by decide +kernel
theorem dL_law_571 : decode code 571 = .ok (.iadd, 1) := by decide +kernel
theorem dL_law_572 : decode code 572 = .ok (.iaload, 1) := by decide +kernel
theorem dL_law_573 : decode code 573 = .ok (.aload_n 0, 1) := by decide +kernel
theorem dL_law_574 : decode code 574 = .ok (.iload 4, 2) := by decide +kernel
theorem dL_law_576 : decode code 576 = .ok (.iconst 3, 1) := by decide +kernel
theorem dL_law_577 : decode code 577 = .ok (.iadd, 1) := by decide +kernel
theorem dL_law_578 : decode code 578 = .ok (.iaload, 1) := by decide +kernel
theorem dL_law_579 : decode code 579 = .ok (.invokevirtual 93, 3) := by decide +kernel
theorem dL_law_582 : decode code 582 = .ok (.istore 6, 2) := by decide +kernel
theorem dL_law_584 : decode code 584 = .ok (.aload_n 2, 1) := by decide +kernel
theorem dL_law_585 : decode code 585 = .ok (.invokevirtual 70, 3) := by decide +kernel
theorem dL_law_588 : decode code 588 = .ok (.iload 5, 2) := by decide +kernel
theorem dL_law_590 : decode code 590 = .ok (.if_icmp .eq 5, 3) := by decide +kernel
theorem dL_law_593 : decode code 593 = .ok (.iconst 0, 1) := by decide +kernel
theorem dL_law_594 : decode code 594 = .ok (.ireturn, 1) := by decide +kernel
theorem dL_law_595 : decode code 595 = .ok (.iload 5, 2) := by decide +kernel
theorem dL_law_597 : decode code 597 = .ok (.ifCond .ne 15, 3) := by decide +kernel
theorem dL_law_600 : decode code 600 = .ok (.aload_n 3, 1) := by decide +kernel
theorem dL_law_601 : decode code 601 = .ok (.iconst 0, 1) := by decide +kernel
theorem dL_law_602 : decode code 602 = .ok (.laload, 1) := by decide +kernel
theorem dL_law_603 : decode code 603 = .ok (.iload 6, 2) := by decide +kernel
theorem dL_law_605 : decode code 605 = .ok (.i2l, 1) := by decide +kernel
theorem dL_law_606 : decode code 606 = .ok (.lcmp, 1) := by decide +kernel
theorem dL_law_607 : decode code 607 = .ok (.ifCond .eq 5, 3) := by decide +kernel
theorem dL_law_610 : decode code 610 = .ok (.iconst 0, 1) := by decide +kernel
theorem dL_law_611 : decode code 611 = .ok (.ireturn, 1) := by decide +kernel
theorem dL_law_612 : decode code 612 = .ok (.goto 437, 3) := by decide +kernel
theorem dL_law_615 : decode code 615 = .ok (.aload_n 1, 1) := by decide +kernel
theorem dL_law_616 : decode code 616 = .ok (.aload_n 0, 1) := by decide +kernel
theorem dL_law_617 : decode code 617 = .ok (.iload 4, 2) := by decide +kernel
theorem dL_law_619 : decode code 619 = .ok (.iconst 1, 1) := by decide +kernel
theorem dL_law_620 : decode code 620 = .ok (.iadd, 1) := by decide +kernel
theorem dL_law_621 : decode code 621 = .ok (.iaload, 1) := by decide +kernel
theorem dL_law_622 : decode code 622 = .ok (.aload_n 0, 1) := by decide +kernel
theorem dL_law_623 : decode code 623 = .ok (.iload 4, 2) := by decide +kernel
theorem dL_law_625 : decode code 625 = .ok (.iconst 2, 1) := by decide +kernel
theorem dL_law_626 : decode code 626 = .ok (.iadd, 1) := by decide +kernel
theorem dL_law_627 : decode code 627 = .ok (.iaload, 1) := by decide +kernel
theorem dL_law_628 : decode code 628 = .ok (.aload_n 3, 1) := by decide +kernel
theorem dL_law_629 : decode code 629 = .ok (.invokestatic 94, 3) := by decide +kernel
theorem dL_law_632 : decode code 632 = .ok (.istore 5, 2) := by decide +kernel
theorem dL_law_634 : decode code 634 = .ok (.aload_n 2, 1) := by decide +kernel
theorem dL_law_635 : decode code 635 = .ok (.aload_n 0, 1) := by decide +kernel
theorem dL_law_636 : decode code 636 = .ok (.iload 4, 2) := by decide +kernel
theorem dL_law_638 : decode code 638 = .ok (.iconst 1, 1) := by decide +kernel
theorem dL_law_639 : decode code 639 = .ok (.iadd, 1) := by decide +kernel
theorem dL_law_640 : decode code 640 = .ok (.iaload, 1) := by decide +kernel
theorem dL_law_641 : decode code 641 = .ok (.aload_n 0, 1) := by decide +kernel
theorem dL_law_642 : decode code 642 = .ok (.iload 4, 2) := by decide +kernel
theorem dL_law_644 : decode code 644 = .ok (.iconst 2, 1) := by decide +kernel
theorem dL_law_645 : decode code 645 = .ok (.iadd, 1) := by decide +kernel
theorem dL_law_646 : decode code 646 = .ok (.iaload, 1) := by decide +kernel
theorem dL_law_647 : decode code 647 = .ok (.invokevirtual 96, 3) := by decide +kernel
theorem dL_law_650 : decode code 650 = .ok (.istore 6, 2) := by decide +kernel
theorem dL_law_652 : decode code 652 = .ok (.aload_n 2, 1) := by decide +kernel
theorem dL_law_653 : decode code 653 = .ok (.invokevirtual 70, 3) := by decide +kernel
theorem dL_law_656 : decode code 656 = .ok (.iload 5, 2) := by decide +kernel
theorem dL_law_658 : decode code 658 = .ok (.if_icmp .eq 5, 3) := by decide +kernel
theorem dL_law_661 : decode code 661 = .ok (.iconst 0, 1) := by decide +kernel
theorem dL_law_662 : decode code 662 = .ok (.ireturn, 1) := by decide +kernel
theorem dL_law_663 : decode code 663 = .ok (.iload 5, 2) := by decide +kernel
theorem dL_law_665 : decode code 665 = .ok (.ifCond .ne 15, 3) := by decide +kernel
theorem dL_law_668 : decode code 668 = .ok (.aload_n 3, 1) := by decide +kernel
theorem dL_law_669 : decode code 669 = .ok (.iconst 0, 1) := by decide +kernel
theorem dL_law_670 : decode code 670 = .ok (.laload, 1) := by decide +kernel
theorem dL_law_671 : decode code 671 = .ok (.iload 6, 2) := by decide +kernel
theorem dL_law_673 : decode code 673 = .ok (.i2l, 1) := by decide +kernel
theorem dL_law_674 : decode code 674 = .ok (.lcmp, 1) := by decide +kernel
theorem dL_law_675 : decode code 675 = .ok (.ifCond .eq 5, 3) := by decide +kernel
theorem dL_law_678 : decode code 678 = .ok (.iconst 0, 1) := by decide +kernel
theorem dL_law_679 : decode code 679 = .ok (.ireturn, 1) := by decide +kernel
theorem dL_law_680 : decode code 680 = .ok (.goto 369, 3) := by decide +kernel
theorem dL_law_683 : decode code 683 = .ok (.aload_n 1, 1) := by decide +kernel
theorem dL_law_684 : decode code 684 = .ok (.aload_n 0, 1) := by decide +kernel
theorem dL_law_685 : decode code 685 = .ok (.iload 4, 2) := by decide +kernel
theorem dL_law_687 : decode code 687 = .ok (.iconst 1, 1) := by decide +kernel
theorem dL_law_688 : decode code 688 = .ok (.iadd, 1) := by decide +kernel
theorem dL_law_689 : decode code 689 = .ok (.iaload, 1) := by decide +kernel
theorem dL_law_690 : decode code 690 = .ok (.aload_n 3, 1) := by decide +kernel
theorem dL_law_691 : decode code 691 = .ok (.invokestatic 97, 3) := by decide +kernel
theorem dL_law_694 : decode code 694 = .ok (.istore 5, 2) := by decide +kernel
theorem dL_law_696 : decode code 696 = .ok (.aload_n 2, 1) := by decide +kernel
theorem dL_law_697 : decode code 697 = .ok (.aload_n 0, 1) := by decide +kernel
theorem dL_law_698 : decode code 698 = .ok (.iload 4, 2) := by decide +kernel
theorem dL_law_700 : decode code 700 = .ok (.iconst 1, 1) := by decide +kernel
theorem dL_law_701 : decode code 701 = .ok (.iadd, 1) := by decide +kernel
theorem dL_law_702 : decode code 702 = .ok (.iaload, 1) := by decide +kernel
theorem dL_law_703 : decode code 703 = .ok (.invokevirtual 99, 3) := by decide +kernel
theorem dL_law_706 : decode code 706 = .ok (.lstore 6, 2) := by decide +kernel
theorem dL_law_708 : decode code 708 = .ok (.aload_n 2, 1) := by decide +kernel
theorem dL_law_709 : decode code 709 = .ok (.invokevirtual 70, 3) := by decide +kernel
theorem dL_law_712 : decode code 712 = .ok (.iload 5, 2) := by decide +kernel
theorem dL_law_714 : decode code 714 = .ok (.if_icmp .eq 5, 3) := by decide +kernel
theorem dL_law_717 : decode code 717 = .ok (.iconst 0, 1) := by decide +kernel
theorem dL_law_718 : decode code 718 = .ok (.ireturn, 1) := by decide +kernel
theorem dL_law_719 : decode code 719 = .ok (.iload 5, 2) := by decide +kernel
theorem dL_law_721 : decode code 721 = .ok (.ifCond .ne 14, 3) := by decide +kernel
theorem dL_law_724 : decode code 724 = .ok (.aload_n 3, 1) := by decide +kernel
theorem dL_law_725 : decode code 725 = .ok (.iconst 0, 1) := by decide +kernel
theorem dL_law_726 : decode code 726 = .ok (.laload, 1) := by decide +kernel
theorem dL_law_727 : decode code 727 = .ok (.lload 6, 2) := by decide +kernel
theorem dL_law_729 : decode code 729 = .ok (.lcmp, 1) := by decide +kernel
theorem dL_law_730 : decode code 730 = .ok (.ifCond .eq 5, 3) := by decide +kernel
theorem dL_law_733 : decode code 733 = .ok (.iconst 0, 1) := by decide +kernel
theorem dL_law_734 : decode code 734 = .ok (.ireturn, 1) := by decide +kernel
theorem dL_law_735 : decode code 735 = .ok (.goto 314, 3) := by decide +kernel
theorem dL_law_738 : decode code 738 = .ok (.aload_n 1, 1) := by decide +kernel
theorem dL_law_739 : decode code 739 = .ok (.invokevirtual 100, 3) := by decide +kernel
theorem dL_law_742 : decode code 742 = .ok (.aload_n 2, 1) := by decide +kernel
theorem dL_law_743 : decode code 743 = .ok (.invokevirtual 103, 3) := by decide +kernel
theorem dL_law_746 : decode code 746 = .ok (.lcmp, 1) := by decide +kernel
theorem dL_law_747 : decode code 747 = .ok (.ifCond .eq 302, 3) := by decide +kernel
theorem dL_law_750 : decode code 750 = .ok (.iconst 0, 1) := by decide +kernel
theorem dL_law_751 : decode code 751 = .ok (.ireturn, 1) := by decide +kernel
theorem dL_law_752 : decode code 752 = .ok (.aload_n 1, 1) := by decide +kernel
theorem dL_law_753 : decode code 753 = .ok (.aload_n 0, 1) := by decide +kernel
theorem dL_law_754 : decode code 754 = .ok (.iload 4, 2) := by decide +kernel
theorem dL_law_756 : decode code 756 = .ok (.iconst 1, 1) := by decide +kernel
theorem dL_law_757 : decode code 757 = .ok (.iadd, 1) := by decide +kernel
theorem dL_law_758 : decode code 758 = .ok (.iaload, 1) := by decide +kernel
theorem dL_law_759 : decode code 759 = .ok (.aload_n 0, 1) := by decide +kernel
theorem dL_law_760 : decode code 760 = .ok (.iload 4, 2) := by decide +kernel
theorem dL_law_762 : decode code 762 = .ok (.iconst 2, 1) := by decide +kernel
theorem dL_law_763 : decode code 763 = .ok (.iadd, 1) := by decide +kernel
theorem dL_law_764 : decode code 764 = .ok (.iaload, 1) := by decide +kernel
theorem dL_law_765 : decode code 765 = .ok (.invokestatic 104, 3) := by decide +kernel
theorem dL_law_768 : decode code 768 = .ok (.istore 5, 2) := by decide +kernel
theorem dL_law_770 : decode code 770 = .ok (.aload_n 2, 1) := by decide +kernel
theorem dL_law_771 : decode code 771 = .ok (.aload_n 0, 1) := by decide +kernel
theorem dL_law_772 : decode code 772 = .ok (.iload 4, 2) := by decide +kernel
theorem dL_law_774 : decode code 774 = .ok (.iconst 1, 1) := by decide +kernel
theorem dL_law_775 : decode code 775 = .ok (.iadd, 1) := by decide +kernel
theorem dL_law_776 : decode code 776 = .ok (.iaload, 1) := by decide +kernel
theorem dL_law_777 : decode code 777 = .ok (.aload_n 0, 1) := by decide +kernel
theorem dL_law_778 : decode code 778 = .ok (.iload 4, 2) := by decide +kernel
theorem dL_law_780 : decode code 780 = .ok (.iconst 2, 1) := by decide +kernel
theorem dL_law_781 : decode code 781 = .ok (.iadd, 1) := by decide +kernel
theorem dL_law_782 : decode code 782 = .ok (.iaload, 1) := by decide +kernel
theorem dL_law_783 : decode code 783 = .ok (.invokevirtual 107, 3) := by decide +kernel
theorem dL_law_786 : decode code 786 = .ok (.aload_n 2, 1) := by decide +kernel
theorem dL_law_787 : decode code 787 = .ok (.invokevirtual 70, 3) := by decide +kernel
theorem dL_law_790 : decode code 790 = .ok (.iload 5, 2) := by decide +kernel
theorem dL_law_792 : decode code 792 = .ok (.if_icmp .eq 5, 3) := by decide +kernel
theorem dL_law_795 : decode code 795 = .ok (.iconst 0, 1) := by decide +kernel
theorem dL_law_796 : decode code 796 = .ok (.ireturn, 1) := by decide +kernel
theorem dL_law_797 : decode code 797 = .ok (.goto 252, 3) := by decide +kernel
theorem dL_law_800 : decode code 800 = .ok (.aload_n 1, 1) := by decide +kernel
theorem dL_law_801 : decode code 801 = .ok (.aload_n 0, 1) := by decide +kernel
theorem dL_law_802 : decode code 802 = .ok (.iload 4, 2) := by decide +kernel
theorem dL_law_804 : decode code 804 = .ok (.iconst 1, 1) := by decide +kernel
theorem dL_law_805 : decode code 805 = .ok (.iadd, 1) := by decide +kernel
theorem dL_law_806 : decode code 806 = .ok (.iaload, 1) := by decide +kernel
theorem dL_law_807 : decode code 807 = .ok (.aload_n 3, 1) := by decide +kernel
theorem dL_law_808 : decode code 808 = .ok (.invokestatic 108, 3) := by decide +kernel
theorem dL_law_811 : decode code 811 = .ok (.istore 5, 2) := by decide +kernel
theorem dL_law_813 : decode code 813 = .ok (.aload_n 2, 1) := by decide +kernel
theorem dL_law_814 : decode code 814 = .ok (.aload_n 0, 1) := by decide +kernel
theorem dL_law_815 : decode code 815 = .ok (.iload 4, 2) := by decide +kernel
theorem dL_law_817 : decode code 817 = .ok (.iconst 1, 1) := by decide +kernel
theorem dL_law_818 : decode code 818 = .ok (.iadd, 1) := by decide +kernel
theorem dL_law_819 : decode code 819 = .ok (.iaload, 1) := by decide +kernel
theorem dL_law_820 : decode code 820 = .ok (.invokevirtual 110, 3) := by decide +kernel
theorem dL_law_823 : decode code 823 = .ok (.istore 6, 2) := by decide +kernel
theorem dL_law_825 : decode code 825 = .ok (.aload_n 2, 1) := by decide +kernel
theorem dL_law_826 : decode code 826 = .ok (.invokevirtual 70, 3) := by decide +kernel
theorem dL_law_829 : decode code 829 = .ok (.iload 5, 2) := by decide +kernel
theorem dL_law_831 : decode code 831 = .ok (.if_icmp .eq 5, 3) := by decide +kernel
theorem dL_law_834 : decode code 834 = .ok (.iconst 0, 1) := by decide +kernel
theorem dL_law_835 : decode code 835 = .ok (.ireturn, 1) := by decide +kernel
theorem dL_law_836 : decode code 836 = .ok (.iload 5, 2) := by decide +kernel
theorem dL_law_838 : decode code 838 = .ok (.ifCond .ne 15, 3) := by decide +kernel
theorem dL_law_841 : decode code 841 = .ok (.aload_n 3, 1) := by decide +kernel
theorem dL_law_842 : decode code 842 = .ok (.iconst 0, 1) := by decide +kernel
theorem dL_law_843 : decode code 843 = .ok (.laload, 1) := by decide +kernel
theorem dL_law_844 : decode code 844 = .ok (.iload 6, 2) := by decide +kernel
theorem dL_law_846 : decode code 846 = .ok (.i2l, 1) := by decide +kernel
theorem dL_law_847 : decode code 847 = .ok (.lcmp, 1) := by decide +kernel
theorem dL_law_848 : decode code 848 = .ok (.ifCond .eq 5, 3) := by decide +kernel
theorem dL_law_851 : decode code 851 = .ok (.iconst 0, 1) := by decide +kernel
theorem dL_law_852 : decode code 852 = .ok (.ireturn, 1) := by decide +kernel
theorem dL_law_853 : decode code 853 = .ok (.goto 196, 3) := by decide +kernel
theorem dL_law_856 : decode code 856 = .ok (.aload_n 1, 1) := by decide +kernel
theorem dL_law_857 : decode code 857 = .ok (.aload_n 0, 1) := by decide +kernel
theorem dL_law_858 : decode code 858 = .ok (.iload 4, 2) := by decide +kernel
theorem dL_law_860 : decode code 860 = .ok (.iconst 1, 1) := by decide +kernel
theorem dL_law_861 : decode code 861 = .ok (.iadd, 1) := by decide +kernel
theorem dL_law_862 : decode code 862 = .ok (.iaload, 1) := by decide +kernel
theorem dL_law_863 : decode code 863 = .ok (.aload_n 0, 1) := by decide +kernel
theorem dL_law_864 : decode code 864 = .ok (.iload 4, 2) := by decide +kernel
theorem dL_law_866 : decode code 866 = .ok (.iconst 2, 1) := by decide +kernel
theorem dL_law_867 : decode code 867 = .ok (.iadd, 1) := by decide +kernel
theorem dL_law_868 : decode code 868 = .ok (.iaload, 1) := by decide +kernel
theorem dL_law_869 : decode code 869 = .ok (.aload_n 3, 1) := by decide +kernel
theorem dL_law_870 : decode code 870 = .ok (.invokestatic 111, 3) := by decide +kernel
theorem dL_law_873 : decode code 873 = .ok (.istore 5, 2) := by decide +kernel
theorem dL_law_875 : decode code 875 = .ok (.aload_n 2, 1) := by decide +kernel
theorem dL_law_876 : decode code 876 = .ok (.aload_n 0, 1) := by decide +kernel
theorem dL_law_877 : decode code 877 = .ok (.iload 4, 2) := by decide +kernel
theorem dL_law_879 : decode code 879 = .ok (.iconst 1, 1) := by decide +kernel
theorem dL_law_880 : decode code 880 = .ok (.iadd, 1) := by decide +kernel
theorem dL_law_881 : decode code 881 = .ok (.iaload, 1) := by decide +kernel
theorem dL_law_882 : decode code 882 = .ok (.aload_n 0, 1) := by decide +kernel
theorem dL_law_883 : decode code 883 = .ok (.iload 4, 2) := by decide +kernel
theorem dL_law_885 : decode code 885 = .ok (.iconst 2, 1) := by decide +kernel
theorem dL_law_886 : decode code 886 = .ok (.iadd, 1) := by decide +kernel
theorem dL_law_887 : decode code 887 = .ok (.iaload, 1) := by decide +kernel
theorem dL_law_888 : decode code 888 = .ok (.invokevirtual 113, 3) := by decide +kernel
theorem dL_law_891 : decode code 891 = .ok (.istore 6, 2) := by decide +kernel
theorem dL_law_893 : decode code 893 = .ok (.aload_n 2, 1) := by decide +kernel
theorem dL_law_894 : decode code 894 = .ok (.invokevirtual 70, 3) := by decide +kernel
theorem dL_law_897 : decode code 897 = .ok (.iload 5, 2) := by decide +kernel
theorem dL_law_899 : decode code 899 = .ok (.if_icmp .eq 5, 3) := by decide +kernel
theorem dL_law_902 : decode code 902 = .ok (.iconst 0, 1) := by decide +kernel
theorem dL_law_903 : decode code 903 = .ok (.ireturn, 1) := by decide +kernel
theorem dL_law_904 : decode code 904 = .ok (.iload 5, 2) := by decide +kernel
theorem dL_law_906 : decode code 906 = .ok (.ifCond .ne 15, 3) := by decide +kernel
theorem dL_law_909 : decode code 909 = .ok (.aload_n 3, 1) := by decide +kernel
theorem dL_law_910 : decode code 910 = .ok (.iconst 0, 1) := by decide +kernel
theorem dL_law_911 : decode code 911 = .ok (.laload, 1) := by decide +kernel
theorem dL_law_912 : decode code 912 = .ok (.iload 6, 2) := by decide +kernel
theorem dL_law_914 : decode code 914 = .ok (.i2l, 1) := by decide +kernel
theorem dL_law_915 : decode code 915 = .ok (.lcmp, 1) := by decide +kernel
theorem dL_law_916 : decode code 916 = .ok (.ifCond .eq 5, 3) := by decide +kernel
theorem dL_law_919 : decode code 919 = .ok (.iconst 0, 1) := by decide +kernel
theorem dL_law_920 : decode code 920 = .ok (.ireturn, 1) := by decide +kernel
theorem dL_law_921 : decode code 921 = .ok (.goto 128, 3) := by decide +kernel
theorem dL_law_924 : decode code 924 = .ok (.aload_n 1, 1) := by decide +kernel
theorem dL_law_925 : decode code 925 = .ok (.invokevirtual 114, 3) := by decide +kernel
theorem dL_law_928 : decode code 928 = .ok (.aload_n 2, 1) := by decide +kernel
theorem dL_law_929 : decode code 929 = .ok (.invokevirtual 117, 3) := by decide +kernel
theorem dL_law_932 : decode code 932 = .ok (.if_icmp .eq 117, 3) := by decide +kernel
theorem dL_law_935 : decode code 935 = .ok (.iconst 0, 1) := by decide +kernel
theorem dL_law_936 : decode code 936 = .ok (.ireturn, 1) := by decide +kernel
theorem dL_law_937 : decode code 937 = .ok (.aload_n 1, 1) := by decide +kernel
theorem dL_law_938 : decode code 938 = .ok (.aload_n 0, 1) := by decide +kernel
theorem dL_law_939 : decode code 939 = .ok (.iload 4, 2) := by decide +kernel
theorem dL_law_941 : decode code 941 = .ok (.iconst 1, 1) := by decide +kernel
theorem dL_law_942 : decode code 942 = .ok (.iadd, 1) := by decide +kernel
theorem dL_law_943 : decode code 943 = .ok (.iaload, 1) := by decide +kernel
theorem dL_law_944 : decode code 944 = .ok (.aload_n 3, 1) := by decide +kernel
theorem dL_law_945 : decode code 945 = .ok (.invokestatic 118, 3) := by decide +kernel
theorem dL_law_948 : decode code 948 = .ok (.istore 5, 2) := by decide +kernel
theorem dL_law_950 : decode code 950 = .ok (.aload_n 2, 1) := by decide +kernel
theorem dL_law_951 : decode code 951 = .ok (.aload_n 0, 1) := by decide +kernel
theorem dL_law_952 : decode code 952 = .ok (.iload 4, 2) := by decide +kernel
theorem dL_law_954 : decode code 954 = .ok (.iconst 1, 1) := by decide +kernel
theorem dL_law_955 : decode code 955 = .ok (.iadd, 1) := by decide +kernel
theorem dL_law_956 : decode code 956 = .ok (.iaload, 1) := by decide +kernel
theorem dL_law_957 : decode code 957 = .ok (.invokevirtual 120, 3) := by decide +kernel
theorem dL_law_960 : decode code 960 = .ok (.istore 6, 2) := by decide +kernel
theorem dL_law_962 : decode code 962 = .ok (.aload_n 2, 1) := by decide +kernel
theorem dL_law_963 : decode code 963 = .ok (.invokevirtual 70, 3) := by decide +kernel
theorem dL_law_966 : decode code 966 = .ok (.iload 5, 2) := by decide +kernel
theorem dL_law_968 : decode code 968 = .ok (.if_icmp .eq 5, 3) := by decide +kernel
theorem dL_law_971 : decode code 971 = .ok (.iconst 0, 1) := by decide +kernel
theorem dL_law_972 : decode code 972 = .ok (.ireturn, 1) := by decide +kernel
theorem dL_law_973 : decode code 973 = .ok (.iload 5, 2) := by decide +kernel
theorem dL_law_975 : decode code 975 = .ok (.ifCond .ne 15, 3) := by decide +kernel
theorem dL_law_978 : decode code 978 = .ok (.aload_n 3, 1) := by decide +kernel
theorem dL_law_979 : decode code 979 = .ok (.iconst 0, 1) := by decide +kernel
theorem dL_law_980 : decode code 980 = .ok (.laload, 1) := by decide +kernel
theorem dL_law_981 : decode code 981 = .ok (.iload 6, 2) := by decide +kernel
theorem dL_law_983 : decode code 983 = .ok (.i2l, 1) := by decide +kernel
theorem dL_law_984 : decode code 984 = .ok (.lcmp, 1) := by decide +kernel
theorem dL_law_985 : decode code 985 = .ok (.ifCond .eq 5, 3) := by decide +kernel
theorem dL_law_988 : decode code 988 = .ok (.iconst 0, 1) := by decide +kernel
theorem dL_law_989 : decode code 989 = .ok (.ireturn, 1) := by decide +kernel
theorem dL_law_990 : decode code 990 = .ok (.goto 59, 3) := by decide +kernel
theorem dL_law_993 : decode code 993 = .ok (.aload_n 1, 1) := by decide +kernel
theorem dL_law_994 : decode code 994 = .ok (.aload_n 0, 1) := by decide +kernel
theorem dL_law_995 : decode code 995 = .ok (.iload 4, 2) := by decide +kernel
theorem dL_law_997 : decode code 997 = .ok (.iconst 1, 1) := by decide +kernel
theorem dL_law_998 : decode code 998 = .ok (.iadd, 1) := by decide +kernel
theorem dL_law_999 : decode code 999 = .ok (.iaload, 1) := by decide +kernel
theorem dL_law_1000 : decode code 1000 = .ok (.aload_n 3, 1) := by decide +kernel
theorem dL_law_1001 : decode code 1001 = .ok (.invokestatic 121, 3) := by decide +kernel
theorem dL_law_1004 : decode code 1004 = .ok (.istore 5, 2) := by decide +kernel
theorem dL_law_1006 : decode code 1006 = .ok (.aload_n 2, 1) := by decide +kernel
theorem dL_law_1007 : decode code 1007 = .ok (.aload_n 0, 1) := by decide +kernel
theorem dL_law_1008 : decode code 1008 = .ok (.iload 4, 2) := by decide +kernel
theorem dL_law_1010 : decode code 1010 = .ok (.iconst 1, 1) := by decide +kernel
theorem dL_law_1011 : decode code 1011 = .ok (.iadd, 1) := by decide +kernel
theorem dL_law_1012 : decode code 1012 = .ok (.iaload, 1) := by decide +kernel
theorem dL_law_1013 : decode code 1013 = .ok (.invokevirtual 123, 3) := by decide +kernel
theorem dL_law_1016 : decode code 1016 = .ok (.istore 6, 2) := by decide +kernel
theorem dL_law_1018 : decode code 1018 = .ok (.aload_n 2, 1) := by decide +kernel
theorem dL_law_1019 : decode code 1019 = .ok (.invokevirtual 70, 3) := by decide +kernel
theorem dL_law_1022 : decode code 1022 = .ok (.iload 5, 2) := by decide +kernel
theorem dL_law_1024 : decode code 1024 = .ok (.if_icmp .eq 5, 3) := by decide +kernel
theorem dL_law_1027 : decode code 1027 = .ok (.iconst 0, 1) := by decide +kernel
theorem dL_law_1028 : decode code 1028 = .ok (.ireturn, 1) := by decide +kernel
theorem dL_law_1029 : decode code 1029 = .ok (.iload 5, 2) := by decide +kernel
theorem dL_law_1031 : decode code 1031 = .ok (.ifCond .ne 15, 3) := by decide +kernel
theorem dL_law_1034 : decode code 1034 = .ok (.aload_n 3, 1) := by decide +kernel
theorem dL_law_1035 : decode code 1035 = .ok (.iconst 0, 1) := by decide +kernel
theorem dL_law_1036 : decode code 1036 = .ok (.laload, 1) := by decide +kernel
theorem dL_law_1037 : decode code 1037 = .ok (.iload 6, 2) := by decide +kernel
theorem dL_law_1039 : decode code 1039 = .ok (.i2l, 1) := by decide +kernel
theorem dL_law_1040 : decode code 1040 = .ok (.lcmp, 1) := by decide +kernel
theorem dL_law_1041 : decode code 1041 = .ok (.ifCond .eq 5, 3) := by decide +kernel
theorem dL_law_1044 : decode code 1044 = .ok (.iconst 0, 1) := by decide +kernel
theorem dL_law_1045 : decode code 1045 = .ok (.ireturn, 1) := by decide +kernel
theorem dL_law_1046 : decode code 1046 = .ok (.goto 3, 3) := by decide +kernel
theorem dL_law_1049 : decode code 1049 = .ok (.iinc 4 4, 3) := by decide +kernel
theorem dL_law_1052 : decode code 1052 = .ok (.goto (-1029), 3) := by decide +kernel
theorem dL_law_1055 : decode code 1055 = .ok (.iconst 1, 1) := by decide +kernel
theorem dL_law_1056 : decode code 1056 = .ok (.ireturn, 1) := by decide +kernel
