theorem dL_law_560 : decode cL_law 560 = .ok (.aload_n 1, 1) := k43 hC_cL_law rfl
theorem dL_law_561 : decode cL_law 561 = .ok (.aload_n 0, 1) := k42 hC_cL_law rfl
theorem dL_law_562 : decode cL_law 562 = .ok (.iload_n 3, 1) := k29 hC_cL_law rfl
theorem dL_law_563 : decode cL_law 563 = .ok (.iconst 1, 1) := k4 hC_cL_law rfl
theorem dL_law_564 : decode cL_law 564 = .ok (.iadd, 1) := k96 hC_cL_law rfl
theorem dL_law_565 : decode cL_law 565 = .ok (.iaload, 1) := k46 hC_cL_law rfl
theorem dL_law_566 : decode cL_law 566 = .ok (.aload_n 0, 1) := k42 hC_cL_law rfl
theorem dL_law_567 : decode cL_law 567 = .ok (.iload_n 3, 1) := k29 hC_cL_law rfl
theorem dL_law_568 : decode cL_law 568 = .ok (.iconst 2, 1) := k5 hC_cL_law rfl
theorem dL_law_569 : decode cL_law 569 = .ok (.iadd, 1) := k96 hC_cL_law rfl
theorem dL_law_570 : decode cL_law 570 = .ok (.iaload, 1) := k46 hC_cL_law rfl
theorem dL_law_571 : decode cL_law 571 = .ok (.aload_n 0, 1) := k42 hC_cL_law rfl
theorem dL_law_572 : decode cL_law 572 = .ok (.iload_n 3, 1) := k29 hC_cL_law rfl
theorem dL_law_573 : decode cL_law 573 = .ok (.iconst 3, 1) := k6 hC_cL_law rfl
theorem dL_law_574 : decode cL_law 574 = .ok (.iadd, 1) := k96 hC_cL_law rfl
theorem dL_law_575 : decode cL_law 575 = .ok (.iaload, 1) := k46 hC_cL_law rfl
theorem dL_law_576 : decode cL_law 576 = .ok (.aload_n 0, 1) := k42 hC_cL_law rfl
theorem dL_law_577 : decode cL_law 577 = .ok (.iload_n 3, 1) := k29 hC_cL_law rfl
theorem dL_law_578 : decode cL_law 578 = .ok (.iconst 4, 1) := k7 hC_cL_law rfl
theorem dL_law_579 : decode cL_law 579 = .ok (.iadd, 1) := k96 hC_cL_law rfl
theorem dL_law_580 : decode cL_law 580 = .ok (.iaload, 1) := k46 hC_cL_law rfl
theorem dL_law_581 : decode cL_law 581 = .ok (.invokevirtual 59, 3) := k182 (y := 0) (z := 59) hC_cL_law rfl rfl
theorem dL_law_584 : decode cL_law 584 = .ok (.pop, 1) := k87 hC_cL_law rfl
theorem dL_law_585 : decode cL_law 585 = .ok (.aload_n 2, 1) := k44 hC_cL_law rfl
theorem dL_law_586 : decode cL_law 586 = .ok (.aload_n 0, 1) := k42 hC_cL_law rfl
theorem dL_law_587 : decode cL_law 587 = .ok (.iload_n 3, 1) := k29 hC_cL_law rfl
theorem dL_law_588 : decode cL_law 588 = .ok (.iconst 1, 1) := k4 hC_cL_law rfl
theorem dL_law_589 : decode cL_law 589 = .ok (.iadd, 1) := k96 hC_cL_law rfl
theorem dL_law_590 : decode cL_law 590 = .ok (.iaload, 1) := k46 hC_cL_law rfl
theorem dL_law_591 : decode cL_law 591 = .ok (.aload_n 0, 1) := k42 hC_cL_law rfl
theorem dL_law_592 : decode cL_law 592 = .ok (.iload_n 3, 1) := k29 hC_cL_law rfl
theorem dL_law_593 : decode cL_law 593 = .ok (.iconst 2, 1) := k5 hC_cL_law rfl
theorem dL_law_594 : decode cL_law 594 = .ok (.iadd, 1) := k96 hC_cL_law rfl
theorem dL_law_595 : decode cL_law 595 = .ok (.iaload, 1) := k46 hC_cL_law rfl
theorem dL_law_596 : decode cL_law 596 = .ok (.aload_n 0, 1) := k42 hC_cL_law rfl
theorem dL_law_597 : decode cL_law 597 = .ok (.iload_n 3, 1) := k29 hC_cL_law rfl
theorem dL_law_598 : decode cL_law 598 = .ok (.iconst 3, 1) := k6 hC_cL_law rfl
theorem dL_law_599 : decode cL_law 599 = .ok (.iadd, 1) := k96 hC_cL_law rfl
theorem dL_law_600 : decode cL_law 600 = .ok (.iaload, 1) := k46 hC_cL_law rfl
theorem dL_law_601 : decode cL_law 601 = .ok (.aload_n 0, 1) := k42 hC_cL_law rfl
theorem dL_law_602 : decode cL_law 602 = .ok (.iload_n 3, 1) := k29 hC_cL_law rfl
theorem dL_law_603 : decode cL_law 603 = .ok (.iconst 4, 1) := k7 hC_cL_law rfl
theorem dL_law_604 : decode cL_law 604 = .ok (.iadd, 1) := k96 hC_cL_law rfl
theorem dL_law_605 : decode cL_law 605 = .ok (.iaload, 1) := k46 hC_cL_law rfl
theorem dL_law_606 : decode cL_law 606 = .ok (.invokevirtual 63, 3) := k182 (y := 0) (z := 63) hC_cL_law rfl rfl
theorem dL_law_609 : decode cL_law 609 = .ok (.pop, 1) := k87 hC_cL_law rfl
theorem dL_law_610 : decode cL_law 610 = .ok (.goto 959, 3) := k167 (y := 3) (z := 191) hC_cL_law rfl rfl
theorem dL_law_613 : decode cL_law 613 = .ok (.aload_n 1, 1) := k43 hC_cL_law rfl
theorem dL_law_614 : decode cL_law 614 = .ok (.aload_n 0, 1) := k42 hC_cL_law rfl
theorem dL_law_615 : decode cL_law 615 = .ok (.iload_n 3, 1) := k29 hC_cL_law rfl
theorem dL_law_616 : decode cL_law 616 = .ok (.iconst 1, 1) := k4 hC_cL_law rfl
theorem dL_law_617 : decode cL_law 617 = .ok (.iadd, 1) := k96 hC_cL_law rfl
theorem dL_law_618 : decode cL_law 618 = .ok (.iaload, 1) := k46 hC_cL_law rfl
theorem dL_law_619 : decode cL_law 619 = .ok (.aload_n 0, 1) := k42 hC_cL_law rfl
theorem dL_law_620 : decode cL_law 620 = .ok (.iload_n 3, 1) := k29 hC_cL_law rfl
theorem dL_law_621 : decode cL_law 621 = .ok (.iconst 2, 1) := k5 hC_cL_law rfl
theorem dL_law_622 : decode cL_law 622 = .ok (.iadd, 1) := k96 hC_cL_law rfl
theorem dL_law_623 : decode cL_law 623 = .ok (.iaload, 1) := k46 hC_cL_law rfl
theorem dL_law_624 : decode cL_law 624 = .ok (.aload_n 0, 1) := k42 hC_cL_law rfl
theorem dL_law_625 : decode cL_law 625 = .ok (.iload_n 3, 1) := k29 hC_cL_law rfl
theorem dL_law_626 : decode cL_law 626 = .ok (.iconst 3, 1) := k6 hC_cL_law rfl
theorem dL_law_627 : decode cL_law 627 = .ok (.iadd, 1) := k96 hC_cL_law rfl
theorem dL_law_628 : decode cL_law 628 = .ok (.iaload, 1) := k46 hC_cL_law rfl
theorem dL_law_629 : decode cL_law 629 = .ok (.aload_n 0, 1) := k42 hC_cL_law rfl
theorem dL_law_630 : decode cL_law 630 = .ok (.iload_n 3, 1) := k29 hC_cL_law rfl
theorem dL_law_631 : decode cL_law 631 = .ok (.iconst 4, 1) := k7 hC_cL_law rfl
theorem dL_law_632 : decode cL_law 632 = .ok (.iadd, 1) := k96 hC_cL_law rfl
theorem dL_law_633 : decode cL_law 633 = .ok (.iaload, 1) := k46 hC_cL_law rfl
theorem dL_law_634 : decode cL_law 634 = .ok (.invokevirtual 64, 3) := k182 (y := 0) (z := 64) hC_cL_law rfl rfl
theorem dL_law_637 : decode cL_law 637 = .ok (.aload_n 2, 1) := k44 hC_cL_law rfl
theorem dL_law_638 : decode cL_law 638 = .ok (.aload_n 0, 1) := k42 hC_cL_law rfl
theorem dL_law_639 : decode cL_law 639 = .ok (.iload_n 3, 1) := k29 hC_cL_law rfl
theorem dL_law_640 : decode cL_law 640 = .ok (.iconst 1, 1) := k4 hC_cL_law rfl
theorem dL_law_641 : decode cL_law 641 = .ok (.iadd, 1) := k96 hC_cL_law rfl
theorem dL_law_642 : decode cL_law 642 = .ok (.iaload, 1) := k46 hC_cL_law rfl
theorem dL_law_643 : decode cL_law 643 = .ok (.aload_n 0, 1) := k42 hC_cL_law rfl
theorem dL_law_644 : decode cL_law 644 = .ok (.iload_n 3, 1) := k29 hC_cL_law rfl
theorem dL_law_645 : decode cL_law 645 = .ok (.iconst 2, 1) := k5 hC_cL_law rfl
theorem dL_law_646 : decode cL_law 646 = .ok (.iadd, 1) := k96 hC_cL_law rfl
theorem dL_law_647 : decode cL_law 647 = .ok (.iaload, 1) := k46 hC_cL_law rfl
theorem dL_law_648 : decode cL_law 648 = .ok (.aload_n 0, 1) := k42 hC_cL_law rfl
theorem dL_law_649 : decode cL_law 649 = .ok (.iload_n 3, 1) := k29 hC_cL_law rfl
theorem dL_law_650 : decode cL_law 650 = .ok (.iconst 3, 1) := k6 hC_cL_law rfl
theorem dL_law_651 : decode cL_law 651 = .ok (.iadd, 1) := k96 hC_cL_law rfl
theorem dL_law_652 : decode cL_law 652 = .ok (.iaload, 1) := k46 hC_cL_law rfl
theorem dL_law_653 : decode cL_law 653 = .ok (.aload_n 0, 1) := k42 hC_cL_law rfl
theorem dL_law_654 : decode cL_law 654 = .ok (.iload_n 3, 1) := k29 hC_cL_law rfl
theorem dL_law_655 : decode cL_law 655 = .ok (.iconst 4, 1) := k7 hC_cL_law rfl
theorem dL_law_656 : decode cL_law 656 = .ok (.iadd, 1) := k96 hC_cL_law rfl
theorem dL_law_657 : decode cL_law 657 = .ok (.iaload, 1) := k46 hC_cL_law rfl
theorem dL_law_658 : decode cL_law 658 = .ok (.invokevirtual 67, 3) := k182 (y := 0) (z := 67) hC_cL_law rfl rfl
theorem dL_law_661 : decode cL_law 661 = .ok (.if_icmp .eq 908, 3) := k159 (y := 3) (z := 140) hC_cL_law rfl rfl
theorem dL_law_666 : decode cL_law 666 = .ok (.aload_n 1, 1) := k43 hC_cL_law rfl
theorem dL_law_667 : decode cL_law 667 = .ok (.aload_n 0, 1) := k42 hC_cL_law rfl
theorem dL_law_668 : decode cL_law 668 = .ok (.iload_n 3, 1) := k29 hC_cL_law rfl
theorem dL_law_669 : decode cL_law 669 = .ok (.iconst 1, 1) := k4 hC_cL_law rfl
theorem dL_law_670 : decode cL_law 670 = .ok (.iadd, 1) := k96 hC_cL_law rfl
theorem dL_law_671 : decode cL_law 671 = .ok (.iaload, 1) := k46 hC_cL_law rfl
theorem dL_law_672 : decode cL_law 672 = .ok (.aload_n 0, 1) := k42 hC_cL_law rfl
theorem dL_law_673 : decode cL_law 673 = .ok (.iload_n 3, 1) := k29 hC_cL_law rfl
theorem dL_law_674 : decode cL_law 674 = .ok (.iconst 2, 1) := k5 hC_cL_law rfl
theorem dL_law_675 : decode cL_law 675 = .ok (.iadd, 1) := k96 hC_cL_law rfl
theorem dL_law_676 : decode cL_law 676 = .ok (.iaload, 1) := k46 hC_cL_law rfl
theorem dL_law_677 : decode cL_law 677 = .ok (.aload_n 0, 1) := k42 hC_cL_law rfl
theorem dL_law_678 : decode cL_law 678 = .ok (.iload_n 3, 1) := k29 hC_cL_law rfl
theorem dL_law_679 : decode cL_law 679 = .ok (.iconst 3, 1) := k6 hC_cL_law rfl
theorem dL_law_680 : decode cL_law 680 = .ok (.iadd, 1) := k96 hC_cL_law rfl
theorem dL_law_681 : decode cL_law 681 = .ok (.iaload, 1) := k46 hC_cL_law rfl
theorem dL_law_682 : decode cL_law 682 = .ok (.invokevirtual 68, 3) := k182 (y := 0) (z := 68) hC_cL_law rfl rfl
theorem dL_law_685 : decode cL_law 685 = .ok (.pop, 1) := k87 hC_cL_law rfl
theorem dL_law_686 : decode cL_law 686 = .ok (.aload_n 2, 1) := k44 hC_cL_law rfl
theorem dL_law_687 : decode cL_law 687 = .ok (.aload_n 0, 1) := k42 hC_cL_law rfl
theorem dL_law_688 : decode cL_law 688 = .ok (.iload_n 3, 1) := k29 hC_cL_law rfl
theorem dL_law_689 : decode cL_law 689 = .ok (.iconst 1, 1) := k4 hC_cL_law rfl
theorem dL_law_690 : decode cL_law 690 = .ok (.iadd, 1) := k96 hC_cL_law rfl
theorem dL_law_691 : decode cL_law 691 = .ok (.iaload, 1) := k46 hC_cL_law rfl
theorem dL_law_692 : decode cL_law 692 = .ok (.aload_n 0, 1) := k42 hC_cL_law rfl
theorem dL_law_693 : decode cL_law 693 = .ok (.iload_n 3, 1) := k29 hC_cL_law rfl
theorem dL_law_694 : decode cL_law 694 = .ok (.iconst 2, 1) := k5 hC_cL_law rfl
theorem dL_law_695 : decode cL_law 695 = .ok (.iadd, 1) := k96 hC_cL_law rfl
theorem dL_law_696 : decode cL_law 696 = .ok (.iaload, 1) := k46 hC_cL_law rfl
theorem dL_law_697 : decode cL_law 697 = .ok (.aload_n 0, 1) := k42 hC_cL_law rfl
theorem dL_law_698 : decode cL_law 698 = .ok (.iload_n 3, 1) := k29 hC_cL_law rfl
theorem dL_law_699 : decode cL_law 699 = .ok (.iconst 3, 1) := k6 hC_cL_law rfl
theorem dL_law_700 : decode cL_law 700 = .ok (.iadd, 1) := k96 hC_cL_law rfl
theorem dL_law_701 : decode cL_law 701 = .ok (.iaload, 1) := k46 hC_cL_law rfl
theorem dL_law_702 : decode cL_law 702 = .ok (.invokevirtual 72, 3) := k182 (y := 0) (z := 72) hC_cL_law rfl rfl
theorem dL_law_705 : decode cL_law 705 = .ok (.pop, 1) := k87 hC_cL_law rfl
theorem dL_law_706 : decode cL_law 706 = .ok (.goto 863, 3) := k167 (y := 3) (z := 95) hC_cL_law rfl rfl
theorem dL_law_709 : decode cL_law 709 = .ok (.aload_n 1, 1) := k43 hC_cL_law rfl
theorem dL_law_710 : decode cL_law 710 = .ok (.aload_n 0, 1) := k42 hC_cL_law rfl
theorem dL_law_711 : decode cL_law 711 = .ok (.iload_n 3, 1) := k29 hC_cL_law rfl
theorem dL_law_712 : decode cL_law 712 = .ok (.iconst 1, 1) := k4 hC_cL_law rfl
theorem dL_law_713 : decode cL_law 713 = .ok (.iadd, 1) := k96 hC_cL_law rfl
theorem dL_law_714 : decode cL_law 714 = .ok (.iaload, 1) := k46 hC_cL_law rfl
theorem dL_law_715 : decode cL_law 715 = .ok (.aload_n 0, 1) := k42 hC_cL_law rfl
theorem dL_law_716 : decode cL_law 716 = .ok (.iload_n 3, 1) := k29 hC_cL_law rfl
theorem dL_law_717 : decode cL_law 717 = .ok (.iconst 2, 1) := k5 hC_cL_law rfl
theorem dL_law_718 : decode cL_law 718 = .ok (.iadd, 1) := k96 hC_cL_law rfl
theorem dL_law_719 : decode cL_law 719 = .ok (.iaload, 1) := k46 hC_cL_law rfl
theorem dL_law_720 : decode cL_law 720 = .ok (.aload_n 0, 1) := k42 hC_cL_law rfl
theorem dL_law_721 : decode cL_law 721 = .ok (.iload_n 3, 1) := k29 hC_cL_law rfl
theorem dL_law_722 : decode cL_law 722 = .ok (.iconst 3, 1) := k6 hC_cL_law rfl
theorem dL_law_723 : decode cL_law 723 = .ok (.iadd, 1) := k96 hC_cL_law rfl
theorem dL_law_724 : decode cL_law 724 = .ok (.iaload, 1) := k46 hC_cL_law rfl
theorem dL_law_725 : decode cL_law 725 = .ok (.invokevirtual 73, 3) := k182 (y := 0) (z := 73) hC_cL_law rfl rfl
theorem dL_law_728 : decode cL_law 728 = .ok (.pop, 1) := k87 hC_cL_law rfl
theorem dL_law_729 : decode cL_law 729 = .ok (.aload_n 2, 1) := k44 hC_cL_law rfl
theorem dL_law_730 : decode cL_law 730 = .ok (.aload_n 0, 1) := k42 hC_cL_law rfl
theorem dL_law_731 : decode cL_law 731 = .ok (.iload_n 3, 1) := k29 hC_cL_law rfl
theorem dL_law_732 : decode cL_law 732 = .ok (.iconst 1, 1) := k4 hC_cL_law rfl
theorem dL_law_733 : decode cL_law 733 = .ok (.iadd, 1) := k96 hC_cL_law rfl
theorem dL_law_734 : decode cL_law 734 = .ok (.iaload, 1) := k46 hC_cL_law rfl
theorem dL_law_735 : decode cL_law 735 = .ok (.aload_n 0, 1) := k42 hC_cL_law rfl
theorem dL_law_736 : decode cL_law 736 = .ok (.iload_n 3, 1) := k29 hC_cL_law rfl
theorem dL_law_737 : decode cL_law 737 = .ok (.iconst 2, 1) := k5 hC_cL_law rfl
theorem dL_law_738 : decode cL_law 738 = .ok (.iadd, 1) := k96 hC_cL_law rfl
theorem dL_law_739 : decode cL_law 739 = .ok (.iaload, 1) := k46 hC_cL_law rfl
theorem dL_law_740 : decode cL_law 740 = .ok (.aload_n 0, 1) := k42 hC_cL_law rfl
theorem dL_law_741 : decode cL_law 741 = .ok (.iload_n 3, 1) := k29 hC_cL_law rfl
theorem dL_law_742 : decode cL_law 742 = .ok (.iconst 3, 1) := k6 hC_cL_law rfl
theorem dL_law_743 : decode cL_law 743 = .ok (.iadd, 1) := k96 hC_cL_law rfl
theorem dL_law_744 : decode cL_law 744 = .ok (.iaload, 1) := k46 hC_cL_law rfl
theorem dL_law_745 : decode cL_law 745 = .ok (.invokevirtual 76, 3) := k182 (y := 0) (z := 76) hC_cL_law rfl rfl
theorem dL_law_748 : decode cL_law 748 = .ok (.pop, 1) := k87 hC_cL_law rfl
theorem dL_law_749 : decode cL_law 749 = .ok (.goto 820, 3) := k167 (y := 3) (z := 52) hC_cL_law rfl rfl
theorem dL_law_752 : decode cL_law 752 = .ok (.aload_n 1, 1) := k43 hC_cL_law rfl
theorem dL_law_753 : decode cL_law 753 = .ok (.aload_n 0, 1) := k42 hC_cL_law rfl
theorem dL_law_754 : decode cL_law 754 = .ok (.iload_n 3, 1) := k29 hC_cL_law rfl
theorem dL_law_755 : decode cL_law 755 = .ok (.iconst 1, 1) := k4 hC_cL_law rfl
theorem dL_law_756 : decode cL_law 756 = .ok (.iadd, 1) := k96 hC_cL_law rfl
theorem dL_law_757 : decode cL_law 757 = .ok (.iaload, 1) := k46 hC_cL_law rfl
theorem dL_law_758 : decode cL_law 758 = .ok (.aload_n 0, 1) := k42 hC_cL_law rfl
theorem dL_law_759 : decode cL_law 759 = .ok (.iload_n 3, 1) := k29 hC_cL_law rfl
theorem dL_law_760 : decode cL_law 760 = .ok (.iconst 2, 1) := k5 hC_cL_law rfl
theorem dL_law_761 : decode cL_law 761 = .ok (.iadd, 1) := k96 hC_cL_law rfl
theorem dL_law_762 : decode cL_law 762 = .ok (.iaload, 1) := k46 hC_cL_law rfl
theorem dL_law_763 : decode cL_law 763 = .ok (.aload_n 0, 1) := k42 hC_cL_law rfl
theorem dL_law_764 : decode cL_law 764 = .ok (.iload_n 3, 1) := k29 hC_cL_law rfl
theorem dL_law_765 : decode cL_law 765 = .ok (.iconst 3, 1) := k6 hC_cL_law rfl
theorem dL_law_766 : decode cL_law 766 = .ok (.iadd, 1) := k96 hC_cL_law rfl
theorem dL_law_767 : decode cL_law 767 = .ok (.iaload, 1) := k46 hC_cL_law rfl
theorem dL_law_768 : decode cL_law 768 = .ok (.invokevirtual 77, 3) := k182 (y := 0) (z := 77) hC_cL_law rfl rfl
theorem dL_law_771 : decode cL_law 771 = .ok (.pop, 1) := k87 hC_cL_law rfl
theorem dL_law_772 : decode cL_law 772 = .ok (.aload_n 2, 1) := k44 hC_cL_law rfl
theorem dL_law_773 : decode cL_law 773 = .ok (.aload_n 0, 1) := k42 hC_cL_law rfl
theorem dL_law_774 : decode cL_law 774 = .ok (.iload_n 3, 1) := k29 hC_cL_law rfl
theorem dL_law_775 : decode cL_law 775 = .ok (.iconst 1, 1) := k4 hC_cL_law rfl
theorem dL_law_776 : decode cL_law 776 = .ok (.iadd, 1) := k96 hC_cL_law rfl
theorem dL_law_777 : decode cL_law 777 = .ok (.iaload, 1) := k46 hC_cL_law rfl
theorem dL_law_778 : decode cL_law 778 = .ok (.aload_n 0, 1) := k42 hC_cL_law rfl
theorem dL_law_779 : decode cL_law 779 = .ok (.iload_n 3, 1) := k29 hC_cL_law rfl
theorem dL_law_780 : decode cL_law 780 = .ok (.iconst 2, 1) := k5 hC_cL_law rfl
theorem dL_law_781 : decode cL_law 781 = .ok (.iadd, 1) := k96 hC_cL_law rfl
theorem dL_law_782 : decode cL_law 782 = .ok (.iaload, 1) := k46 hC_cL_law rfl
theorem dL_law_783 : decode cL_law 783 = .ok (.aload_n 0, 1) := k42 hC_cL_law rfl
theorem dL_law_784 : decode cL_law 784 = .ok (.iload_n 3, 1) := k29 hC_cL_law rfl
theorem dL_law_785 : decode cL_law 785 = .ok (.iconst 3, 1) := k6 hC_cL_law rfl
theorem dL_law_786 : decode cL_law 786 = .ok (.iadd, 1) := k96 hC_cL_law rfl
theorem dL_law_787 : decode cL_law 787 = .ok (.iaload, 1) := k46 hC_cL_law rfl
theorem dL_law_788 : decode cL_law 788 = .ok (.invokevirtual 80, 3) := k182 (y := 0) (z := 80) hC_cL_law rfl rfl
theorem dL_law_791 : decode cL_law 791 = .ok (.pop, 1) := k87 hC_cL_law rfl
theorem dL_law_792 : decode cL_law 792 = .ok (.goto 777, 3) := k167 (y := 3) (z := 9) hC_cL_law rfl rfl
theorem dL_law_795 : decode cL_law 795 = .ok (.aload_n 1, 1) := k43 hC_cL_law rfl
theorem dL_law_796 : decode cL_law 796 = .ok (.aload_n 0, 1) := k42 hC_cL_law rfl
theorem dL_law_797 : decode cL_law 797 = .ok (.iload_n 3, 1) := k29 hC_cL_law rfl
theorem dL_law_798 : decode cL_law 798 = .ok (.iconst 1, 1) := k4 hC_cL_law rfl
theorem dL_law_799 : decode cL_law 799 = .ok (.iadd, 1) := k96 hC_cL_law rfl
theorem dL_law_800 : decode cL_law 800 = .ok (.iaload, 1) := k46 hC_cL_law rfl
theorem dL_law_801 : decode cL_law 801 = .ok (.aload_n 0, 1) := k42 hC_cL_law rfl
theorem dL_law_802 : decode cL_law 802 = .ok (.iload_n 3, 1) := k29 hC_cL_law rfl
theorem dL_law_803 : decode cL_law 803 = .ok (.iconst 2, 1) := k5 hC_cL_law rfl
theorem dL_law_804 : decode cL_law 804 = .ok (.iadd, 1) := k96 hC_cL_law rfl
theorem dL_law_805 : decode cL_law 805 = .ok (.iaload, 1) := k46 hC_cL_law rfl
theorem dL_law_806 : decode cL_law 806 = .ok (.aload_n 0, 1) := k42 hC_cL_law rfl
theorem dL_law_807 : decode cL_law 807 = .ok (.iload_n 3, 1) := k29 hC_cL_law rfl
theorem dL_law_808 : decode cL_law 808 = .ok (.iconst 3, 1) := k6 hC_cL_law rfl
theorem dL_law_809 : decode cL_law 809 = .ok (.iadd, 1) := k96 hC_cL_law rfl
theorem dL_law_810 : decode cL_law 810 = .ok (.iaload, 1) := k46 hC_cL_law rfl
theorem dL_law_811 : decode cL_law 811 = .ok (.invokevirtual 81, 3) := k182 (y := 0) (z := 81) hC_cL_law rfl rfl
theorem dL_law_814 : decode cL_law 814 = .ok (.pop, 1) := k87 hC_cL_law rfl
theorem dL_law_815 : decode cL_law 815 = .ok (.aload_n 2, 1) := k44 hC_cL_law rfl
theorem dL_law_816 : decode cL_law 816 = .ok (.aload_n 0, 1) := k42 hC_cL_law rfl
theorem dL_law_817 : decode cL_law 817 = .ok (.iload_n 3, 1) := k29 hC_cL_law rfl
theorem dL_law_818 : decode cL_law 818 = .ok (.iconst 1, 1) := k4 hC_cL_law rfl
theorem dL_law_819 : decode cL_law 819 = .ok (.iadd, 1) := k96 hC_cL_law rfl
theorem dL_law_820 : decode cL_law 820 = .ok (.iaload, 1) := k46 hC_cL_law rfl
theorem dL_law_821 : decode cL_law 821 = .ok (.aload_n 0, 1) := k42 hC_cL_law rfl
theorem dL_law_822 : decode cL_law 822 = .ok (.iload_n 3, 1) := k29 hC_cL_law rfl
theorem dL_law_823 : decode cL_law 823 = .ok (.iconst 2, 1) := k5 hC_cL_law rfl
theorem dL_law_824 : decode cL_law 824 = .ok (.iadd, 1) := k96 hC_cL_law rfl
theorem dL_law_825 : decode cL_law 825 = .ok (.iaload, 1) := k46 hC_cL_law rfl
theorem dL_law_826 : decode cL_law 826 = .ok (.aload_n 0, 1) := k42 hC_cL_law rfl
theorem dL_law_827 : decode cL_law 827 = .ok (.iload_n 3, 1) := k29 hC_cL_law rfl
theorem dL_law_828 : decode cL_law 828 = .ok (.iconst 3, 1) := k6 hC_cL_law rfl
theorem dL_law_829 : decode cL_law 829 = .ok (.iadd, 1) := k96 hC_cL_law rfl
theorem dL_law_830 : decode cL_law 830 = .ok (.iaload, 1) := k46 hC_cL_law rfl
theorem dL_law_831 : decode cL_law 831 = .ok (.invokevirtual 84, 3) := k182 (y := 0) (z := 84) hC_cL_law rfl rfl
theorem dL_law_834 : decode cL_law 834 = .ok (.pop, 1) := k87 hC_cL_law rfl
theorem dL_law_835 : decode cL_law 835 = .ok (.goto 734, 3) := k167 (y := 2) (z := 222) hC_cL_law rfl rfl
theorem dL_law_838 : decode cL_law 838 = .ok (.aload_n 1, 1) := k43 hC_cL_law rfl
theorem dL_law_839 : decode cL_law 839 = .ok (.aload_n 0, 1) := k42 hC_cL_law rfl
theorem dL_law_840 : decode cL_law 840 = .ok (.iload_n 3, 1) := k29 hC_cL_law rfl
theorem dL_law_841 : decode cL_law 841 = .ok (.iconst 1, 1) := k4 hC_cL_law rfl
theorem dL_law_842 : decode cL_law 842 = .ok (.iadd, 1) := k96 hC_cL_law rfl
theorem dL_law_843 : decode cL_law 843 = .ok (.iaload, 1) := k46 hC_cL_law rfl
theorem dL_law_844 : decode cL_law 844 = .ok (.aload_n 0, 1) := k42 hC_cL_law rfl
theorem dL_law_845 : decode cL_law 845 = .ok (.iload_n 3, 1) := k29 hC_cL_law rfl
theorem dL_law_846 : decode cL_law 846 = .ok (.iconst 2, 1) := k5 hC_cL_law rfl
theorem dL_law_847 : decode cL_law 847 = .ok (.iadd, 1) := k96 hC_cL_law rfl
theorem dL_law_848 : decode cL_law 848 = .ok (.iaload, 1) := k46 hC_cL_law rfl
theorem dL_law_849 : decode cL_law 849 = .ok (.aload_n 0, 1) := k42 hC_cL_law rfl
theorem dL_law_850 : decode cL_law 850 = .ok (.iload_n 3, 1) := k29 hC_cL_law rfl
theorem dL_law_851 : decode cL_law 851 = .ok (.iconst 3, 1) := k6 hC_cL_law rfl
theorem dL_law_852 : decode cL_law 852 = .ok (.iadd, 1) := k96 hC_cL_law rfl
theorem dL_law_853 : decode cL_law 853 = .ok (.iaload, 1) := k46 hC_cL_law rfl
theorem dL_law_854 : decode cL_law 854 = .ok (.ifCond .eq 7, 3) := k153 (y := 0) (z := 7) hC_cL_law rfl rfl
theorem dL_law_857 : decode cL_law 857 = .ok (.iconst 1, 1) := k4 hC_cL_law rfl
theorem dL_law_858 : decode cL_law 858 = .ok (.goto 4, 3) := k167 (y := 0) (z := 4) hC_cL_law rfl rfl
theorem dL_law_861 : decode cL_law 861 = .ok (.iconst 0, 1) := k3 hC_cL_law rfl
theorem dL_law_862 : decode cL_law 862 = .ok (.invokevirtual 85, 3) := k182 (y := 0) (z := 85) hC_cL_law rfl rfl
theorem dL_law_865 : decode cL_law 865 = .ok (.pop, 1) := k87 hC_cL_law rfl
theorem dL_law_866 : decode cL_law 866 = .ok (.aload_n 2, 1) := k44 hC_cL_law rfl
theorem dL_law_867 : decode cL_law 867 = .ok (.aload_n 0, 1) := k42 hC_cL_law rfl
theorem dL_law_868 : decode cL_law 868 = .ok (.iload_n 3, 1) := k29 hC_cL_law rfl
theorem dL_law_869 : decode cL_law 869 = .ok (.iconst 1, 1) := k4 hC_cL_law rfl
theorem dL_law_870 : decode cL_law 870 = .ok (.iadd, 1) := k96 hC_cL_law rfl
theorem dL_law_871 : decode cL_law 871 = .ok (.iaload, 1) := k46 hC_cL_law rfl
theorem dL_law_872 : decode cL_law 872 = .ok (.aload_n 0, 1) := k42 hC_cL_law rfl
theorem dL_law_873 : decode cL_law 873 = .ok (.iload_n 3, 1) := k29 hC_cL_law rfl
theorem dL_law_874 : decode cL_law 874 = .ok (.iconst 2, 1) := k5 hC_cL_law rfl
theorem dL_law_875 : decode cL_law 875 = .ok (.iadd, 1) := k96 hC_cL_law rfl
theorem dL_law_876 : decode cL_law 876 = .ok (.iaload, 1) := k46 hC_cL_law rfl
theorem dL_law_877 : decode cL_law 877 = .ok (.aload_n 0, 1) := k42 hC_cL_law rfl
theorem dL_law_878 : decode cL_law 878 = .ok (.iload_n 3, 1) := k29 hC_cL_law rfl
theorem dL_law_879 : decode cL_law 879 = .ok (.iconst 3, 1) := k6 hC_cL_law rfl
theorem dL_law_880 : decode cL_law 880 = .ok (.iadd, 1) := k96 hC_cL_law rfl
theorem dL_law_881 : decode cL_law 881 = .ok (.iaload, 1) := k46 hC_cL_law rfl
theorem dL_law_882 : decode cL_law 882 = .ok (.ifCond .eq 7, 3) := k153 (y := 0) (z := 7) hC_cL_law rfl rfl
theorem dL_law_885 : decode cL_law 885 = .ok (.iconst 1, 1) := k4 hC_cL_law rfl
theorem dL_law_886 : decode cL_law 886 = .ok (.goto 4, 3) := k167 (y := 0) (z := 4) hC_cL_law rfl rfl
theorem dL_law_889 : decode cL_law 889 = .ok (.iconst 0, 1) := k3 hC_cL_law rfl
theorem dL_law_890 : decode cL_law 890 = .ok (.invokevirtual 89, 3) := k182 (y := 0) (z := 89) hC_cL_law rfl rfl
theorem dL_law_893 : decode cL_law 893 = .ok (.pop, 1) := k87 hC_cL_law rfl
theorem dL_law_894 : decode cL_law 894 = .ok (.goto 675, 3) := k167 (y := 2) (z := 163) hC_cL_law rfl rfl
theorem dL_law_897 : decode cL_law 897 = .ok (.aload_n 1, 1) := k43 hC_cL_law rfl
theorem dL_law_898 : decode cL_law 898 = .ok (.aload_n 0, 1) := k42 hC_cL_law rfl
theorem dL_law_899 : decode cL_law 899 = .ok (.iload_n 3, 1) := k29 hC_cL_law rfl
theorem dL_law_900 : decode cL_law 900 = .ok (.iconst 1, 1) := k4 hC_cL_law rfl
theorem dL_law_901 : decode cL_law 901 = .ok (.iadd, 1) := k96 hC_cL_law rfl
theorem dL_law_902 : decode cL_law 902 = .ok (.iaload, 1) := k46 hC_cL_law rfl
theorem dL_law_903 : decode cL_law 903 = .ok (.invokevirtual 90, 3) := k182 (y := 0) (z := 90) hC_cL_law rfl rfl
theorem dL_law_906 : decode cL_law 906 = .ok (.pop, 1) := k87 hC_cL_law rfl
theorem dL_law_907 : decode cL_law 907 = .ok (.aload_n 2, 1) := k44 hC_cL_law rfl
theorem dL_law_908 : decode cL_law 908 = .ok (.aload_n 0, 1) := k42 hC_cL_law rfl
theorem dL_law_909 : decode cL_law 909 = .ok (.iload_n 3, 1) := k29 hC_cL_law rfl
theorem dL_law_910 : decode cL_law 910 = .ok (.iconst 1, 1) := k4 hC_cL_law rfl
theorem dL_law_911 : decode cL_law 911 = .ok (.iadd, 1) := k96 hC_cL_law rfl
theorem dL_law_912 : decode cL_law 912 = .ok (.iaload, 1) := k46 hC_cL_law rfl
theorem dL_law_913 : decode cL_law 913 = .ok (.invokevirtual 93, 3) := k182 (y := 0) (z := 93) hC_cL_law rfl rfl
theorem dL_law_916 : decode cL_law 916 = .ok (.pop, 1) := k87 hC_cL_law rfl
theorem dL_law_917 : decode cL_law 917 = .ok (.goto 652, 3) := k167 (y := 2) (z := 140) hC_cL_law rfl rfl
theorem dL_law_920 : decode cL_law 920 = .ok (.aload_n 1, 1) := k43 hC_cL_law rfl
theorem dL_law_921 : decode cL_law 921 = .ok (.aload_n 0, 1) := k42 hC_cL_law rfl
theorem dL_law_922 : decode cL_law 922 = .ok (.iload_n 3, 1) := k29 hC_cL_law rfl
theorem dL_law_923 : decode cL_law 923 = .ok (.iconst 1, 1) := k4 hC_cL_law rfl
theorem dL_law_924 : decode cL_law 924 = .ok (.iadd, 1) := k96 hC_cL_law rfl
theorem dL_law_925 : decode cL_law 925 = .ok (.iaload, 1) := k46 hC_cL_law rfl
theorem dL_law_926 : decode cL_law 926 = .ok (.invokevirtual 94, 3) := k182 (y := 0) (z := 94) hC_cL_law rfl rfl
theorem dL_law_929 : decode cL_law 929 = .ok (.pop, 1) := k87 hC_cL_law rfl
theorem dL_law_930 : decode cL_law 930 = .ok (.aload_n 2, 1) := k44 hC_cL_law rfl
theorem dL_law_931 : decode cL_law 931 = .ok (.aload_n 0, 1) := k42 hC_cL_law rfl
theorem dL_law_932 : decode cL_law 932 = .ok (.iload_n 3, 1) := k29 hC_cL_law rfl
theorem dL_law_933 : decode cL_law 933 = .ok (.iconst 1, 1) := k4 hC_cL_law rfl
theorem dL_law_934 : decode cL_law 934 = .ok (.iadd, 1) := k96 hC_cL_law rfl
theorem dL_law_935 : decode cL_law 935 = .ok (.iaload, 1) := k46 hC_cL_law rfl
theorem dL_law_936 : decode cL_law 936 = .ok (.invokevirtual 97, 3) := k182 (y := 0) (z := 97) hC_cL_law rfl rfl
theorem dL_law_939 : decode cL_law 939 = .ok (.pop, 1) := k87 hC_cL_law rfl
theorem dL_law_940 : decode cL_law 940 = .ok (.goto 629, 3) := k167 (y := 2) (z := 117) hC_cL_law rfl rfl
theorem dL_law_943 : decode cL_law 943 = .ok (.aload_n 1, 1) := k43 hC_cL_law rfl
theorem dL_law_944 : decode cL_law 944 = .ok (.aload_n 0, 1) := k42 hC_cL_law rfl
theorem dL_law_945 : decode cL_law 945 = .ok (.iload_n 3, 1) := k29 hC_cL_law rfl
theorem dL_law_946 : decode cL_law 946 = .ok (.iconst 1, 1) := k4 hC_cL_law rfl
theorem dL_law_947 : decode cL_law 947 = .ok (.iadd, 1) := k96 hC_cL_law rfl
theorem dL_law_948 : decode cL_law 948 = .ok (.iaload, 1) := k46 hC_cL_law rfl
theorem dL_law_949 : decode cL_law 949 = .ok (.invokevirtual 98, 3) := k182 (y := 0) (z := 98) hC_cL_law rfl rfl
theorem dL_law_952 : decode cL_law 952 = .ok (.pop, 1) := k87 hC_cL_law rfl
theorem dL_law_953 : decode cL_law 953 = .ok (.aload_n 2, 1) := k44 hC_cL_law rfl
theorem dL_law_954 : decode cL_law 954 = .ok (.aload_n 0, 1) := k42 hC_cL_law rfl
theorem dL_law_955 : decode cL_law 955 = .ok (.iload_n 3, 1) := k29 hC_cL_law rfl
theorem dL_law_956 : decode cL_law 956 = .ok (.iconst 1, 1) := k4 hC_cL_law rfl
theorem dL_law_957 : decode cL_law 957 = .ok (.iadd, 1) := k96 hC_cL_law rfl
theorem dL_law_958 : decode cL_law 958 = .ok (.iaload, 1) := k46 hC_cL_law rfl
theorem dL_law_959 : decode cL_law 959 = .ok (.invokevirtual 101, 3) := k182 (y := 0) (z := 101) hC_cL_law rfl rfl
theorem dL_law_962 : decode cL_law 962 = .ok (.pop, 1) := k87 hC_cL_law rfl
theorem dL_law_963 : decode cL_law 963 = .ok (.goto 606, 3) := k167 (y := 2) (z := 94) hC_cL_law rfl rfl
set_option maxHeartbeats 4000000 in
set_option maxRecDepth 100000 in
theorem law_case_10 {p : Program} {l : Launch} {e : Env} {s : State} {m : MethodId} {below : List Frame} {meth : Method} {c : Code} {b : Nat} {xs : Nat → Int32} {L : Nat} (C0 : lw_At p s m meth c b L xs) {D : va_G} {ct : Nat → ClassId} {tN : Nat} (E : Ev p s m #[Value.ref b] c R_law 4 code D (TY ct) tN (fun q : Nat => s.heap.size ≤ q)) {ad am : Nat → Nat} {n : Nat} {H : Heap} {locs : List Loc} {cells slots : Nat} (hS : va_S (fun q : Nat => s.heap.size ≤ q) s.heap H locs) (h : LI D (fun q : Nat => s.heap.size ≤ q) ct ad am tN n H) {ls : Array Slot} {i : Int32} (hl : lv_has ls 4 [(3, .int i), (2, .ref (am 0)), (1, .ref (ad 0)), (0, .ref b)]) (hi0 : 0 ≤ i.toInt) (hi1 : i.toInt + 5 < (L : Int)) (hLb : (L : Int) ≤ 3072) (hin : i.toInt = 6 * (n : Int)) (hcl : cells + 8 ≤ 600000) (hsl : slots + 160 ≤ 7302250) (kk : ∀ (H1 : Heap) (locs1 : List Loc) (ls1 : Array Slot), LI D (fun q : Nat => s.heap.size ≤ q) ct ad am tN (n + 1) H1 → va_S (fun q : Nat => s.heap.size ≤ q) s.heap H1 locs1 → lv_has ls1 4 [(3, .int i), (2, .ref (am 0)), (1, .ref (ad 0)), (0, .ref b)] → W p l e room_1 s m #[Value.ref b] below meth c H1 locs1 (cells + 8) (slots + 160) (lw_Z below #[Value.ref b] s) (F0 m 1569 ls1 [])) : W p l e room_1 s m #[Value.ref b] below meth c H locs cells slots (lw_Z below #[Value.ref b] s) (F0 m 560 ls []) := by
  obtain ⟨hx, hb, hr0, hml, hown, hts, hX, hbl, hlocks, hgv⟩ := id C0
  refine h _ (fun i0 i1 i2 i3 i4 i5 i6 i7 i8 i9 i10 i11 i12 i13 i14 i15 i16 i17 i18 i19 i20 i21 i22 i23 i24 i25 i26 i27 i28 i29 i30 i31 i32 i33 i34 i35 a1 a2 a4 a5 a7 a8 a10 a11 a13 a14 a15 a18 a19 a20 a21 a22 a23 a24 a25 a26 a29 a30 a31 a32 a43 a44 a45 a51 a52 a53 a54 a55 l46 r9n r9c og ogn ogc rtn rtc ptn ptc p0 p1 Pl j0 j1 j2 j3 j4 j5 j6 j7 j8 j9 j10 j11 j12 j13 j14 j15 j16 j17 j18 j19 j20 j21 j22 j23 j24 j25 j26 j27 j28 j29 b1 b2 b3 b4 b5 b6 b7 b8 b9 b10 b11 b12 b13 b14 b15 b16 b17 b18 b19 b20 b21 b22 b23 b24 b25 b26 b27 b28 b29 b30 b31 b32 b33 b34 b35 b36 b37 b38 b39 b40 b41 b42 b43 b44 b45 b46 b47 b48 b49 b50 b51 b52 b53 b55 b56 b57 b58 b61 b62 b63 b64 b65 b66 iam B hM hr hp hk hcn hxR1 => ?_)
  refine lv_aload_n hx hb dL_law_560 rfl (lv_at hl 2 rfl) ?_
  refine law_arg (kv := 1) C0 E hS hl (by decide) (by decide) (by omega) (by omega) (by omega) dL_law_561 dL_law_562 dL_law_563 dL_law_564 dL_law_565 ?_
  refine at_pc (n := 566) rfl ?_
  refine law_arg (kv := 2) C0 E hS hl (by decide) (by decide) (by omega) (by omega) (by omega) dL_law_566 dL_law_567 dL_law_568 dL_law_569 dL_law_570 ?_
  refine at_pc (n := 571) rfl ?_
  refine law_arg (kv := 3) C0 E hS hl (by decide) (by decide) (by omega) (by omega) (by omega) dL_law_571 dL_law_572 dL_law_573 dL_law_574 dL_law_575 ?_
  refine at_pc (n := 576) rfl ?_
  refine law_arg (kv := 4) C0 E hS hl (by decide) (by decide) (by omega) (by omega) (by omega) dL_law_576 dL_law_577 dL_law_578 dL_law_579 dL_law_580 ?_
  refine at_pc (n := 581) rfl ?_
  obtain ⟨_, Rz⟩ := B.rec0
  refine hc_VI (kn := 4) E hS B (x11_rules l D tN (fun q : Nat => s.heap.size ≤ q) ((xs (i.toInt + 1).toNat)) ((xs (i.toInt + 2).toNat)) ((xs (i.toInt + 3).toNat)) ((xs (i.toInt + 4).toNat))) (good_V w_9896a829 w_1301d9ef w_5a3fb7f2 w_93c426f0 w_e0a6646c) Rz rfl ⟨rfl, by decide +kernel⟩ rfl rfl rfl ⟨Nat.le_of_ble_eq_true rfl, Nat.le_of_ble_eq_true rfl⟩ rfl hl (Nat.le_of_ble_eq_true rfl) dL_law_581 ⟨by show _ ≤ 600000; omega, by show _ ≤ 7302250; omega⟩ (fun v_1 H locs w_2 hS => ?_)
  have B0 := B
  obtain ⟨ni0_3, ni9_4, ni12_5, ni13_6, ni14_7, ni15_8, ni16_9, na18_10, na19_11, na20_12, na21_13, na22_14, na23_15, na24_16, na25_17, na26_18, nrtn_19, nrtc_20, np0_21, nPl_22, hpl_23, ex_24, ex_25, ex_26, ex_27, ex_28, ex_29, ex_30, ex_31, ex_32, ex_33, ex_34, ex_35, ex_36, ex_37, ex_38, ex_39, ex_40, ex_41, ex_42, B⟩ := w_2
  refine at_n (n := 584) (k1 := cells + 1) (k2 := slots + 160) rfl rfl rfl ?_
  refine lv_pop hx hb dL_law_584 rfl ?_
  refine lv_aload_n hx hb dL_law_585 rfl (lv_at hl 1 rfl) ?_
  refine law_arg (kv := 1) C0 E hS hl (by decide) (by decide) (by omega) (by omega) (by omega) dL_law_586 dL_law_587 dL_law_588 dL_law_589 dL_law_590 ?_
  refine at_pc (n := 591) rfl ?_
  refine law_arg (kv := 2) C0 E hS hl (by decide) (by decide) (by omega) (by omega) (by omega) dL_law_591 dL_law_592 dL_law_593 dL_law_594 dL_law_595 ?_
  refine at_pc (n := 596) rfl ?_
  refine law_arg (kv := 3) C0 E hS hl (by decide) (by decide) (by omega) (by omega) (by omega) dL_law_596 dL_law_597 dL_law_598 dL_law_599 dL_law_600 ?_
  refine at_pc (n := 601) rfl ?_
  refine law_arg (kv := 4) C0 E hS hl (by decide) (by decide) (by omega) (by omega) (by omega) dL_law_601 dL_law_602 dL_law_603 dL_law_604 dL_law_605 ?_
  refine at_pc (n := 606) rfl ?_
  obtain ⟨Rw, B, back⟩ := toM B hM
  obtain ⟨_, Rz⟩ := B.rec
  refine hc_VI (kn := 4) E hS B (m12_rules l D tN (fun q : Nat => s.heap.size ≤ q) ((xs (i.toInt + 1).toNat)) ((xs (i.toInt + 2).toNat)) ((xs (i.toInt + 3).toNat)) ((xs (i.toInt + 4).toNat)) hp hk) (good_V w_98bb58ca w_03e2963d w_faf242e6 w_2e12d08c w_93ab22ad) Rz rfl ⟨rfl, by decide +kernel⟩ rfl rfl rfl ⟨Nat.le_of_ble_eq_true rfl, Nat.le_of_ble_eq_true rfl⟩ rfl hl (Nat.le_of_ble_eq_true rfl) dL_law_606 ⟨by show _ ≤ 600000; omega, by show _ ≤ 7302250; omega⟩ (fun v_43 H locs w_44 hS => ?_)
  obtain ⟨ni0_45, ni6_46, ni9_47, ni10_48, ni11_49, ni12_50, ni13_51, ni14_52, ni15_53, ni16_54, ni17_55, na15_56, na16_57, na17_58, na18_59, na19_60, na20_61, na21_62, na22_63, na23_64, na24_65, na25_66, na26_67, na27_68, hv_69, P_70, P_71, ex_72, ex_73, ex_74, ex_75, ex_76, ex_77, ex_78, ex_79, ex_80, ex_81, ex_82, ex_83, ex_84, ex_85, ex_86, ex_87, ex_88, ex_89, ex_90, ex_91, ex_92, ex_93, ex_94, ex_95, ex_96, B⟩ := w_44
  obtain ⟨_, B, hM⟩ := back B
  obtain ⟨hq_97, hx_98⟩ := R1_rules hxR1 ex_24 ex_25 ex_26 ex_27 ex_28 ex_29 ex_30 ex_31 ex_32 ex_33 ex_34 ex_35 ex_36 ex_37 ex_38 ex_39 ex_40 ex_41 ex_42 ex_72 ex_73 ex_74 ex_75 ex_76 ex_77 ex_78 ex_79 ex_80 ex_81 ex_82 ex_83 ex_84 ex_85 ex_86 ex_87 ex_88 ex_89 ex_90 ex_91 ex_92 ex_93 ex_94 ex_95 ex_96
  refine at_n (n := 609) (k1 := cells + 1) (k2 := slots + 160) rfl rfl rfl ?_
  refine lv_pop hx hb dL_law_609 rfl ?_
  refine lv_goto (tgt := 1569) hx hb dL_law_610 (by decide) ?_
  refine W.widen (k := cells + 8) (n := slots + 160) (by omega) (by omega) ?_
  refine kk _ _ _ (LI.mk B hM hr P_70 P_71 (by omega) hx_98) hS hl
set_option maxHeartbeats 4000000 in
set_option maxRecDepth 100000 in
theorem law_case_11 {p : Program} {l : Launch} {e : Env} {s : State} {m : MethodId} {below : List Frame} {meth : Method} {c : Code} {b : Nat} {xs : Nat → Int32} {L : Nat} (C0 : lw_At p s m meth c b L xs) {D : va_G} {ct : Nat → ClassId} {tN : Nat} (E : Ev p s m #[Value.ref b] c R_law 4 code D (TY ct) tN (fun q : Nat => s.heap.size ≤ q)) {ad am : Nat → Nat} {n : Nat} {H : Heap} {locs : List Loc} {cells slots : Nat} (hS : va_S (fun q : Nat => s.heap.size ≤ q) s.heap H locs) (h : LI D (fun q : Nat => s.heap.size ≤ q) ct ad am tN n H) {ls : Array Slot} {i : Int32} (hl : lv_has ls 4 [(3, .int i), (2, .ref (am 0)), (1, .ref (ad 0)), (0, .ref b)]) (hi0 : 0 ≤ i.toInt) (hi1 : i.toInt + 5 < (L : Int)) (hLb : (L : Int) ≤ 3072) (hin : i.toInt = 6 * (n : Int)) (hcl : cells + 8 ≤ 600000) (hsl : slots + 160 ≤ 7302250) (kk : ∀ (H1 : Heap) (locs1 : List Loc) (ls1 : Array Slot), LI D (fun q : Nat => s.heap.size ≤ q) ct ad am tN (n + 1) H1 → va_S (fun q : Nat => s.heap.size ≤ q) s.heap H1 locs1 → lv_has ls1 4 [(3, .int i), (2, .ref (am 0)), (1, .ref (ad 0)), (0, .ref b)] → W p l e room_1 s m #[Value.ref b] below meth c H1 locs1 (cells + 8) (slots + 160) (lw_Z below #[Value.ref b] s) (F0 m 1569 ls1 [])) : W p l e room_1 s m #[Value.ref b] below meth c H locs cells slots (lw_Z below #[Value.ref b] s) (F0 m 613 ls []) := by
  obtain ⟨hx, hb, hr0, hml, hown, hts, hX, hbl, hlocks, hgv⟩ := id C0
  refine h _ (fun i0 i1 i2 i3 i4 i5 i6 i7 i8 i9 i10 i11 i12 i13 i14 i15 i16 i17 i18 i19 i20 i21 i22 i23 i24 i25 i26 i27 i28 i29 i30 i31 i32 i33 i34 i35 a1 a2 a4 a5 a7 a8 a10 a11 a13 a14 a15 a18 a19 a20 a21 a22 a23 a24 a25 a26 a29 a30 a31 a32 a43 a44 a45 a51 a52 a53 a54 a55 l46 r9n r9c og ogn ogc rtn rtc ptn ptc p0 p1 Pl j0 j1 j2 j3 j4 j5 j6 j7 j8 j9 j10 j11 j12 j13 j14 j15 j16 j17 j18 j19 j20 j21 j22 j23 j24 j25 j26 j27 j28 j29 b1 b2 b3 b4 b5 b6 b7 b8 b9 b10 b11 b12 b13 b14 b15 b16 b17 b18 b19 b20 b21 b22 b23 b24 b25 b26 b27 b28 b29 b30 b31 b32 b33 b34 b35 b36 b37 b38 b39 b40 b41 b42 b43 b44 b45 b46 b47 b48 b49 b50 b51 b52 b53 b55 b56 b57 b58 b61 b62 b63 b64 b65 b66 iam B hM hr hp hk hcn hxR1 => ?_)
  refine lv_aload_n hx hb dL_law_613 rfl (lv_at hl 2 rfl) ?_
  refine law_arg (kv := 1) C0 E hS hl (by decide) (by decide) (by omega) (by omega) (by omega) dL_law_614 dL_law_615 dL_law_616 dL_law_617 dL_law_618 ?_
  refine at_pc (n := 619) rfl ?_
  refine law_arg (kv := 2) C0 E hS hl (by decide) (by decide) (by omega) (by omega) (by omega) dL_law_619 dL_law_620 dL_law_621 dL_law_622 dL_law_623 ?_
  refine at_pc (n := 624) rfl ?_
  refine law_arg (kv := 3) C0 E hS hl (by decide) (by decide) (by omega) (by omega) (by omega) dL_law_624 dL_law_625 dL_law_626 dL_law_627 dL_law_628 ?_
  refine at_pc (n := 629) rfl ?_
  refine law_arg (kv := 4) C0 E hS hl (by decide) (by decide) (by omega) (by omega) (by omega) dL_law_629 dL_law_630 dL_law_631 dL_law_632 dL_law_633 ?_
  refine at_pc (n := 634) rfl ?_
  obtain ⟨_, Rz⟩ := B.rec0
  refine hc_VI (kn := 4) E hS B (x11_holds l D tN (fun q : Nat => s.heap.size ≤ q) ((xs (i.toInt + 1).toNat)) ((xs (i.toInt + 2).toNat)) ((xs (i.toInt + 3).toNat)) ((xs (i.toInt + 4).toNat))) (good_V w_bc75a666 w_a2393d19 w_78dd430d w_93c426f0 w_1f365742) Rz rfl ⟨rfl, by decide +kernel⟩ rfl rfl rfl ⟨Nat.le_of_ble_eq_true rfl, Nat.le_of_ble_eq_true rfl⟩ rfl hl (Nat.le_of_ble_eq_true rfl) dL_law_634 ⟨by show _ ≤ 600000; omega, by show _ ≤ 7302250; omega⟩ (fun v_1 H locs w_2 hS => ?_)
  have B0 := B
  obtain ⟨ni17_3, ni18_4, ni19_5, ni20_6, ni21_7, ni22_8, ni23_9, ni24_10, ni25_11, ni26_12, nptn_13, nptc_14, np1_15, hv_16, ex_17, ex_18, ex_19, ex_20, ex_21, ex_22, ex_23, ex_24, ex_25, ex_26, ex_27, ex_28, ex_29, B⟩ := w_2
  refine at_n (n := 637) (k1 := cells + 0) (k2 := slots + 0) rfl rfl rfl ?_
  refine lv_aload_n hx hb dL_law_637 rfl (lv_at hl 1 rfl) ?_
  refine law_arg (kv := 1) C0 E hS hl (by decide) (by decide) (by omega) (by omega) (by omega) dL_law_638 dL_law_639 dL_law_640 dL_law_641 dL_law_642 ?_
  refine at_pc (n := 643) rfl ?_
  refine law_arg (kv := 2) C0 E hS hl (by decide) (by decide) (by omega) (by omega) (by omega) dL_law_643 dL_law_644 dL_law_645 dL_law_646 dL_law_647 ?_
  refine at_pc (n := 648) rfl ?_
  refine law_arg (kv := 3) C0 E hS hl (by decide) (by decide) (by omega) (by omega) (by omega) dL_law_648 dL_law_649 dL_law_650 dL_law_651 dL_law_652 ?_
  refine at_pc (n := 653) rfl ?_
  refine law_arg (kv := 4) C0 E hS hl (by decide) (by decide) (by omega) (by omega) (by omega) dL_law_653 dL_law_654 dL_law_655 dL_law_656 dL_law_657 ?_
  refine at_pc (n := 658) rfl ?_
  obtain ⟨Rw, B, back⟩ := toM B hM
  obtain ⟨_, Rz⟩ := B.rec
  refine hc_VI (kn := 4) E hS B (m12_holds l D tN (fun q : Nat => s.heap.size ≤ q) ((xs (i.toInt + 1).toNat)) ((xs (i.toInt + 2).toNat)) ((xs (i.toInt + 3).toNat)) ((xs (i.toInt + 4).toNat)) hp hk) (good_V w_a6c11485 w_f865855e w_37519205 w_2e12d08c w_470fea27) Rz rfl ⟨rfl, by decide +kernel⟩ rfl rfl rfl ⟨Nat.le_of_ble_eq_true rfl, Nat.le_of_ble_eq_true rfl⟩ rfl hl (Nat.le_of_ble_eq_true rfl) dL_law_658 ⟨by show _ ≤ 600000; omega, by show _ ≤ 7302250; omega⟩ (fun v_30 H locs w_31 hS => ?_)
  obtain ⟨na28_32, na29_33, ex_34, ex_35, ex_36, B⟩ := w_31
  obtain ⟨_, B, hM⟩ := back B
  have hq_37 := R1_holds hxR1 hk ex_17 ex_18 ex_19 ex_20 ex_21 ex_22 ex_23 ex_24 ex_25 ex_26 ex_27 ex_28 ex_29 ex_34 ex_35 ex_36
  refine at_n (n := 661) (k1 := cells + 0) (k2 := slots + 0) rfl rfl rfl ?_
  have hq1 := tI_0
  have hq2 := tI_1
  refine c_eq (tgt := 1569) E rfl rfl dL_law_661 (by decide) (fun _ => ?_) (fun cne => ?_)
  · skip
    refine W.widen (k := cells + 8) (n := slots + 160) (by omega) (by omega) ?_
    refine kk _ _ _ (LI.mk B hM hr hp hk (by omega) hxR1) hS hl
  · exfalso
    obtain ⟨hr1, hr2, hr3, hr4, hr5⟩ := hr
    omega
set_option maxHeartbeats 4000000 in
set_option maxRecDepth 100000 in
theorem law_case_12 {p : Program} {l : Launch} {e : Env} {s : State} {m : MethodId} {below : List Frame} {meth : Method} {c : Code} {b : Nat} {xs : Nat → Int32} {L : Nat} (C0 : lw_At p s m meth c b L xs) {D : va_G} {ct : Nat → ClassId} {tN : Nat} (E : Ev p s m #[Value.ref b] c R_law 4 code D (TY ct) tN (fun q : Nat => s.heap.size ≤ q)) {ad am : Nat → Nat} {n : Nat} {H : Heap} {locs : List Loc} {cells slots : Nat} (hS : va_S (fun q : Nat => s.heap.size ≤ q) s.heap H locs) (h : LI D (fun q : Nat => s.heap.size ≤ q) ct ad am tN n H) {ls : Array Slot} {i : Int32} (hl : lv_has ls 4 [(3, .int i), (2, .ref (am 0)), (1, .ref (ad 0)), (0, .ref b)]) (hi0 : 0 ≤ i.toInt) (hi1 : i.toInt + 5 < (L : Int)) (hLb : (L : Int) ≤ 3072) (hin : i.toInt = 6 * (n : Int)) (hcl : cells + 8 ≤ 600000) (hsl : slots + 160 ≤ 7302250) (kk : ∀ (H1 : Heap) (locs1 : List Loc) (ls1 : Array Slot), LI D (fun q : Nat => s.heap.size ≤ q) ct ad am tN (n + 1) H1 → va_S (fun q : Nat => s.heap.size ≤ q) s.heap H1 locs1 → lv_has ls1 4 [(3, .int i), (2, .ref (am 0)), (1, .ref (ad 0)), (0, .ref b)] → W p l e room_1 s m #[Value.ref b] below meth c H1 locs1 (cells + 8) (slots + 160) (lw_Z below #[Value.ref b] s) (F0 m 1569 ls1 [])) : W p l e room_1 s m #[Value.ref b] below meth c H locs cells slots (lw_Z below #[Value.ref b] s) (F0 m 666 ls []) := by
  obtain ⟨hx, hb, hr0, hml, hown, hts, hX, hbl, hlocks, hgv⟩ := id C0
  refine h _ (fun i0 i1 i2 i3 i4 i5 i6 i7 i8 i9 i10 i11 i12 i13 i14 i15 i16 i17 i18 i19 i20 i21 i22 i23 i24 i25 i26 i27 i28 i29 i30 i31 i32 i33 i34 i35 a1 a2 a4 a5 a7 a8 a10 a11 a13 a14 a15 a18 a19 a20 a21 a22 a23 a24 a25 a26 a29 a30 a31 a32 a43 a44 a45 a51 a52 a53 a54 a55 l46 r9n r9c og ogn ogc rtn rtc ptn ptc p0 p1 Pl j0 j1 j2 j3 j4 j5 j6 j7 j8 j9 j10 j11 j12 j13 j14 j15 j16 j17 j18 j19 j20 j21 j22 j23 j24 j25 j26 j27 j28 j29 b1 b2 b3 b4 b5 b6 b7 b8 b9 b10 b11 b12 b13 b14 b15 b16 b17 b18 b19 b20 b21 b22 b23 b24 b25 b26 b27 b28 b29 b30 b31 b32 b33 b34 b35 b36 b37 b38 b39 b40 b41 b42 b43 b44 b45 b46 b47 b48 b49 b50 b51 b52 b53 b55 b56 b57 b58 b61 b62 b63 b64 b65 b66 iam B hM hr hp hk hcn hxR1 => ?_)
  refine lv_aload_n hx hb dL_law_666 rfl (lv_at hl 2 rfl) ?_
  refine law_arg (kv := 1) C0 E hS hl (by decide) (by decide) (by omega) (by omega) (by omega) dL_law_667 dL_law_668 dL_law_669 dL_law_670 dL_law_671 ?_
  refine at_pc (n := 672) rfl ?_
  refine law_arg (kv := 2) C0 E hS hl (by decide) (by decide) (by omega) (by omega) (by omega) dL_law_672 dL_law_673 dL_law_674 dL_law_675 dL_law_676 ?_
  refine at_pc (n := 677) rfl ?_
  refine law_arg (kv := 3) C0 E hS hl (by decide) (by decide) (by omega) (by omega) (by omega) dL_law_677 dL_law_678 dL_law_679 dL_law_680 dL_law_681 ?_
  refine at_pc (n := 682) rfl ?_
  obtain ⟨_, Rz⟩ := B.rec0
  refine hc_VI (kn := 3) E hS B (x11_asks l D tN (fun q : Nat => s.heap.size ≤ q) ((xs (i.toInt + 1).toNat)) ((xs (i.toInt + 2).toNat)) ((xs (i.toInt + 3).toNat))) (good_V w_ebe778c0 w_c5726422 w_e87c452e w_93c426f0 w_e73a2ecf) Rz rfl ⟨rfl, by decide +kernel⟩ rfl rfl rfl ⟨Nat.le_of_ble_eq_true rfl, Nat.le_of_ble_eq_true rfl⟩ rfl hl (Nat.le_of_ble_eq_true rfl) dL_law_682 ⟨by show _ ≤ 600000; omega, by show _ ≤ 7302250; omega⟩ (fun v_1 H locs w_2 hS => ?_)
  have B0 := B
  obtain ⟨ni17_3, ni18_4, ni19_5, ni20_6, ni21_7, ni22_8, ni23_9, ni24_10, ex_11, ex_12, ex_13, ex_14, ex_15, ex_16, ex_17, ex_18, ex_19, B⟩ := w_2
  refine at_n (n := 685) (k1 := cells + 0) (k2 := slots + 0) rfl rfl rfl ?_
  refine lv_pop hx hb dL_law_685 rfl ?_
  refine lv_aload_n hx hb dL_law_686 rfl (lv_at hl 1 rfl) ?_
  refine law_arg (kv := 1) C0 E hS hl (by decide) (by decide) (by omega) (by omega) (by omega) dL_law_687 dL_law_688 dL_law_689 dL_law_690 dL_law_691 ?_
  refine at_pc (n := 692) rfl ?_
  refine law_arg (kv := 2) C0 E hS hl (by decide) (by decide) (by omega) (by omega) (by omega) dL_law_692 dL_law_693 dL_law_694 dL_law_695 dL_law_696 ?_
  refine at_pc (n := 697) rfl ?_
  refine law_arg (kv := 3) C0 E hS hl (by decide) (by decide) (by omega) (by omega) (by omega) dL_law_697 dL_law_698 dL_law_699 dL_law_700 dL_law_701 ?_
  refine at_pc (n := 702) rfl ?_
  obtain ⟨Rw, B, back⟩ := toM B hM
  obtain ⟨_, Rz⟩ := B.rec
  refine hc_VI (kn := 3) E hS B (m12_asks l D tN (fun q : Nat => s.heap.size ≤ q) ((xs (i.toInt + 1).toNat)) ((xs (i.toInt + 2).toNat)) ((xs (i.toInt + 3).toNat)) hk) (good_V w_12dbb890 w_5ea0abbc w_2bff17cb w_2e12d08c w_5cfe18d9) Rz rfl ⟨rfl, by decide +kernel⟩ rfl rfl rfl ⟨Nat.le_of_ble_eq_true rfl, Nat.le_of_ble_eq_true rfl⟩ rfl hl (Nat.le_of_ble_eq_true rfl) dL_law_702 ⟨by show _ ≤ 600000; omega, by show _ ≤ 7302250; omega⟩ (fun v_20 H locs w_21 hS => ?_)
  obtain ⟨ex_22, B⟩ := w_21
  obtain ⟨_, B, hM⟩ := back B
  have hq_23 := R1_asks hxR1 hk ex_11 ex_12 ex_13 ex_14 ex_15 ex_16 ex_17 ex_18 ex_19 ex_22
  refine at_n (n := 705) (k1 := cells + 0) (k2 := slots + 0) rfl rfl rfl ?_
  refine lv_pop hx hb dL_law_705 rfl ?_
  refine lv_goto (tgt := 1569) hx hb dL_law_706 (by decide) ?_
  refine W.widen (k := cells + 8) (n := slots + 160) (by omega) (by omega) ?_
  refine kk _ _ _ (LI.mk B hM hr hp hk (by omega) hxR1) hS hl
set_option maxHeartbeats 4000000 in
set_option maxRecDepth 100000 in
theorem law_case_13 {p : Program} {l : Launch} {e : Env} {s : State} {m : MethodId} {below : List Frame} {meth : Method} {c : Code} {b : Nat} {xs : Nat → Int32} {L : Nat} (C0 : lw_At p s m meth c b L xs) {D : va_G} {ct : Nat → ClassId} {tN : Nat} (E : Ev p s m #[Value.ref b] c R_law 4 code D (TY ct) tN (fun q : Nat => s.heap.size ≤ q)) {ad am : Nat → Nat} {n : Nat} {H : Heap} {locs : List Loc} {cells slots : Nat} (hS : va_S (fun q : Nat => s.heap.size ≤ q) s.heap H locs) (h : LI D (fun q : Nat => s.heap.size ≤ q) ct ad am tN n H) {ls : Array Slot} {i : Int32} (hl : lv_has ls 4 [(3, .int i), (2, .ref (am 0)), (1, .ref (ad 0)), (0, .ref b)]) (hi0 : 0 ≤ i.toInt) (hi1 : i.toInt + 5 < (L : Int)) (hLb : (L : Int) ≤ 3072) (hin : i.toInt = 6 * (n : Int)) (hcl : cells + 8 ≤ 600000) (hsl : slots + 160 ≤ 7302250) (kk : ∀ (H1 : Heap) (locs1 : List Loc) (ls1 : Array Slot), LI D (fun q : Nat => s.heap.size ≤ q) ct ad am tN (n + 1) H1 → va_S (fun q : Nat => s.heap.size ≤ q) s.heap H1 locs1 → lv_has ls1 4 [(3, .int i), (2, .ref (am 0)), (1, .ref (ad 0)), (0, .ref b)] → W p l e room_1 s m #[Value.ref b] below meth c H1 locs1 (cells + 8) (slots + 160) (lw_Z below #[Value.ref b] s) (F0 m 1569 ls1 [])) : W p l e room_1 s m #[Value.ref b] below meth c H locs cells slots (lw_Z below #[Value.ref b] s) (F0 m 709 ls []) := by
  obtain ⟨hx, hb, hr0, hml, hown, hts, hX, hbl, hlocks, hgv⟩ := id C0
  refine h _ (fun i0 i1 i2 i3 i4 i5 i6 i7 i8 i9 i10 i11 i12 i13 i14 i15 i16 i17 i18 i19 i20 i21 i22 i23 i24 i25 i26 i27 i28 i29 i30 i31 i32 i33 i34 i35 a1 a2 a4 a5 a7 a8 a10 a11 a13 a14 a15 a18 a19 a20 a21 a22 a23 a24 a25 a26 a29 a30 a31 a32 a43 a44 a45 a51 a52 a53 a54 a55 l46 r9n r9c og ogn ogc rtn rtc ptn ptc p0 p1 Pl j0 j1 j2 j3 j4 j5 j6 j7 j8 j9 j10 j11 j12 j13 j14 j15 j16 j17 j18 j19 j20 j21 j22 j23 j24 j25 j26 j27 j28 j29 b1 b2 b3 b4 b5 b6 b7 b8 b9 b10 b11 b12 b13 b14 b15 b16 b17 b18 b19 b20 b21 b22 b23 b24 b25 b26 b27 b28 b29 b30 b31 b32 b33 b34 b35 b36 b37 b38 b39 b40 b41 b42 b43 b44 b45 b46 b47 b48 b49 b50 b51 b52 b53 b55 b56 b57 b58 b61 b62 b63 b64 b65 b66 iam B hM hr hp hk hcn hxR1 => ?_)
  refine lv_aload_n hx hb dL_law_709 rfl (lv_at hl 2 rfl) ?_
  refine law_arg (kv := 1) C0 E hS hl (by decide) (by decide) (by omega) (by omega) (by omega) dL_law_710 dL_law_711 dL_law_712 dL_law_713 dL_law_714 ?_
  refine at_pc (n := 715) rfl ?_
  refine law_arg (kv := 2) C0 E hS hl (by decide) (by decide) (by omega) (by omega) (by omega) dL_law_715 dL_law_716 dL_law_717 dL_law_718 dL_law_719 ?_
  refine at_pc (n := 720) rfl ?_
  refine law_arg (kv := 3) C0 E hS hl (by decide) (by decide) (by omega) (by omega) (by omega) dL_law_720 dL_law_721 dL_law_722 dL_law_723 dL_law_724 ?_
  refine at_pc (n := 725) rfl ?_
  obtain ⟨_, Rz⟩ := B.rec0
  refine hc_VI (kn := 3) E hS B (x11_token l D tN (fun q : Nat => s.heap.size ≤ q) ((xs (i.toInt + 1).toNat)) ((xs (i.toInt + 2).toNat)) ((xs (i.toInt + 3).toNat))) (good_V w_cb4d0ad9 w_c842f068 w_f15dce18 w_93c426f0 w_97afe92a) Rz rfl ⟨rfl, by decide +kernel⟩ rfl rfl rfl ⟨Nat.le_of_ble_eq_true rfl, Nat.le_of_ble_eq_true rfl⟩ rfl hl (Nat.le_of_ble_eq_true rfl) dL_law_725 ⟨by show _ ≤ 600000; omega, by show _ ≤ 7302250; omega⟩ (fun v_1 H locs w_2 hS => ?_)
  have B0 := B
  obtain ⟨ex_3, B⟩ := w_2
  refine at_n (n := 728) (k1 := cells + 0) (k2 := slots + 0) rfl rfl rfl ?_
  refine lv_pop hx hb dL_law_728 rfl ?_
  refine lv_aload_n hx hb dL_law_729 rfl (lv_at hl 1 rfl) ?_
  refine law_arg (kv := 1) C0 E hS hl (by decide) (by decide) (by omega) (by omega) (by omega) dL_law_730 dL_law_731 dL_law_732 dL_law_733 dL_law_734 ?_
  refine at_pc (n := 735) rfl ?_
  refine law_arg (kv := 2) C0 E hS hl (by decide) (by decide) (by omega) (by omega) (by omega) dL_law_735 dL_law_736 dL_law_737 dL_law_738 dL_law_739 ?_
  refine at_pc (n := 740) rfl ?_
  refine law_arg (kv := 3) C0 E hS hl (by decide) (by decide) (by omega) (by omega) (by omega) dL_law_740 dL_law_741 dL_law_742 dL_law_743 dL_law_744 ?_
  refine at_pc (n := 745) rfl ?_
  obtain ⟨Rw, B, back⟩ := toM B hM
  obtain ⟨_, Rz⟩ := B.rec
  refine hc_VI (kn := 3) E hS B (m12_token l D tN (fun q : Nat => s.heap.size ≤ q) ((xs (i.toInt + 1).toNat)) ((xs (i.toInt + 2).toNat)) ((xs (i.toInt + 3).toNat))) (good_V w_1111d8ab w_b047e690 w_6671b166 w_2e12d08c w_c0215795) Rz rfl ⟨rfl, by decide +kernel⟩ rfl rfl rfl ⟨Nat.le_of_ble_eq_true rfl, Nat.le_of_ble_eq_true rfl⟩ rfl hl (Nat.le_of_ble_eq_true rfl) dL_law_745 ⟨by show _ ≤ 600000; omega, by show _ ≤ 7302250; omega⟩ (fun v_4 H locs w_5 hS => ?_)
  obtain ⟨ex_6, B⟩ := w_5
  obtain ⟨_, B, hM⟩ := back B
  have hq_7 := R1_token hxR1 ex_3 ex_6
  refine at_n (n := 748) (k1 := cells + 0) (k2 := slots + 0) rfl rfl rfl ?_
  refine lv_pop hx hb dL_law_748 rfl ?_
  refine lv_goto (tgt := 1569) hx hb dL_law_749 (by decide) ?_
  refine W.widen (k := cells + 8) (n := slots + 160) (by omega) (by omega) ?_
  refine kk _ _ _ (LI.mk B hM hr hp hk (by omega) hxR1) hS hl
set_option maxHeartbeats 4000000 in
set_option maxRecDepth 100000 in
theorem law_case_14 {p : Program} {l : Launch} {e : Env} {s : State} {m : MethodId} {below : List Frame} {meth : Method} {c : Code} {b : Nat} {xs : Nat → Int32} {L : Nat} (C0 : lw_At p s m meth c b L xs) {D : va_G} {ct : Nat → ClassId} {tN : Nat} (E : Ev p s m #[Value.ref b] c R_law 4 code D (TY ct) tN (fun q : Nat => s.heap.size ≤ q)) {ad am : Nat → Nat} {n : Nat} {H : Heap} {locs : List Loc} {cells slots : Nat} (hS : va_S (fun q : Nat => s.heap.size ≤ q) s.heap H locs) (h : LI D (fun q : Nat => s.heap.size ≤ q) ct ad am tN n H) {ls : Array Slot} {i : Int32} (hl : lv_has ls 4 [(3, .int i), (2, .ref (am 0)), (1, .ref (ad 0)), (0, .ref b)]) (hi0 : 0 ≤ i.toInt) (hi1 : i.toInt + 5 < (L : Int)) (hLb : (L : Int) ≤ 3072) (hin : i.toInt = 6 * (n : Int)) (hcl : cells + 8 ≤ 600000) (hsl : slots + 160 ≤ 7302250) (kk : ∀ (H1 : Heap) (locs1 : List Loc) (ls1 : Array Slot), LI D (fun q : Nat => s.heap.size ≤ q) ct ad am tN (n + 1) H1 → va_S (fun q : Nat => s.heap.size ≤ q) s.heap H1 locs1 → lv_has ls1 4 [(3, .int i), (2, .ref (am 0)), (1, .ref (ad 0)), (0, .ref b)] → W p l e room_1 s m #[Value.ref b] below meth c H1 locs1 (cells + 8) (slots + 160) (lw_Z below #[Value.ref b] s) (F0 m 1569 ls1 [])) : W p l e room_1 s m #[Value.ref b] below meth c H locs cells slots (lw_Z below #[Value.ref b] s) (F0 m 752 ls []) := by
  obtain ⟨hx, hb, hr0, hml, hown, hts, hX, hbl, hlocks, hgv⟩ := id C0
  refine h _ (fun i0 i1 i2 i3 i4 i5 i6 i7 i8 i9 i10 i11 i12 i13 i14 i15 i16 i17 i18 i19 i20 i21 i22 i23 i24 i25 i26 i27 i28 i29 i30 i31 i32 i33 i34 i35 a1 a2 a4 a5 a7 a8 a10 a11 a13 a14 a15 a18 a19 a20 a21 a22 a23 a24 a25 a26 a29 a30 a31 a32 a43 a44 a45 a51 a52 a53 a54 a55 l46 r9n r9c og ogn ogc rtn rtc ptn ptc p0 p1 Pl j0 j1 j2 j3 j4 j5 j6 j7 j8 j9 j10 j11 j12 j13 j14 j15 j16 j17 j18 j19 j20 j21 j22 j23 j24 j25 j26 j27 j28 j29 b1 b2 b3 b4 b5 b6 b7 b8 b9 b10 b11 b12 b13 b14 b15 b16 b17 b18 b19 b20 b21 b22 b23 b24 b25 b26 b27 b28 b29 b30 b31 b32 b33 b34 b35 b36 b37 b38 b39 b40 b41 b42 b43 b44 b45 b46 b47 b48 b49 b50 b51 b52 b53 b55 b56 b57 b58 b61 b62 b63 b64 b65 b66 iam B hM hr hp hk hcn hxR1 => ?_)
  refine lv_aload_n hx hb dL_law_752 rfl (lv_at hl 2 rfl) ?_
  refine law_arg (kv := 1) C0 E hS hl (by decide) (by decide) (by omega) (by omega) (by omega) dL_law_753 dL_law_754 dL_law_755 dL_law_756 dL_law_757 ?_
  refine at_pc (n := 758) rfl ?_
  refine law_arg (kv := 2) C0 E hS hl (by decide) (by decide) (by omega) (by omega) (by omega) dL_law_758 dL_law_759 dL_law_760 dL_law_761 dL_law_762 ?_
  refine at_pc (n := 763) rfl ?_
  refine law_arg (kv := 3) C0 E hS hl (by decide) (by decide) (by omega) (by omega) (by omega) dL_law_763 dL_law_764 dL_law_765 dL_law_766 dL_law_767 ?_
  refine at_pc (n := 768) rfl ?_
  obtain ⟨_, Rz⟩ := B.rec0
  refine hc_VI (kn := 3) E hS B (x11_differ l D tN (fun q : Nat => s.heap.size ≤ q) ((xs (i.toInt + 1).toNat)) ((xs (i.toInt + 2).toNat)) ((xs (i.toInt + 3).toNat))) (good_V w_068ae804 w_9f8f3618 w_037b88e0 w_93c426f0 w_a28708c6) Rz rfl ⟨rfl, by decide +kernel⟩ rfl rfl rfl ⟨Nat.le_of_ble_eq_true rfl, Nat.le_of_ble_eq_true rfl⟩ rfl hl (Nat.le_of_ble_eq_true rfl) dL_law_768 ⟨by show _ ≤ 600000; omega, by show _ ≤ 7302250; omega⟩ (fun v_1 H locs w_2 hS => ?_)
  have B0 := B
  obtain ⟨na2_3, ex_4, ex_5, B⟩ := w_2
  refine at_n (n := 771) (k1 := cells + 0) (k2 := slots + 0) rfl rfl rfl ?_
  refine lv_pop hx hb dL_law_771 rfl ?_
  refine lv_aload_n hx hb dL_law_772 rfl (lv_at hl 1 rfl) ?_
  refine law_arg (kv := 1) C0 E hS hl (by decide) (by decide) (by omega) (by omega) (by omega) dL_law_773 dL_law_774 dL_law_775 dL_law_776 dL_law_777 ?_
  refine at_pc (n := 778) rfl ?_
  refine law_arg (kv := 2) C0 E hS hl (by decide) (by decide) (by omega) (by omega) (by omega) dL_law_778 dL_law_779 dL_law_780 dL_law_781 dL_law_782 ?_
  refine at_pc (n := 783) rfl ?_
  refine law_arg (kv := 3) C0 E hS hl (by decide) (by decide) (by omega) (by omega) (by omega) dL_law_783 dL_law_784 dL_law_785 dL_law_786 dL_law_787 ?_
  refine at_pc (n := 788) rfl ?_
  obtain ⟨Rw, B, back⟩ := toM B hM
  obtain ⟨_, Rz⟩ := B.rec
  refine hc_VI (kn := 3) E hS B (m12_differ l D tN (fun q : Nat => s.heap.size ≤ q) ((xs (i.toInt + 1).toNat)) ((xs (i.toInt + 2).toNat)) ((xs (i.toInt + 3).toNat))) (good_V w_05ff86ae w_cc6f57a8 w_79a48d84 w_2e12d08c w_7b03d626) Rz rfl ⟨rfl, by decide +kernel⟩ rfl rfl rfl ⟨Nat.le_of_ble_eq_true rfl, Nat.le_of_ble_eq_true rfl⟩ rfl hl (Nat.le_of_ble_eq_true rfl) dL_law_788 ⟨by show _ ≤ 600000; omega, by show _ ≤ 7302250; omega⟩ (fun v_6 H locs w_7 hS => ?_)
  obtain ⟨na30_8, na31_9, na32_10, ex_11, ex_12, ex_13, ex_14, B⟩ := w_7
  obtain ⟨_, B, hM⟩ := back B
  have hq_15 := R1_differ hxR1 ex_4 ex_5 ex_11 ex_12 ex_13 ex_14
  refine at_n (n := 791) (k1 := cells + 0) (k2 := slots + 0) rfl rfl rfl ?_
  refine lv_pop hx hb dL_law_791 rfl ?_
  refine lv_goto (tgt := 1569) hx hb dL_law_792 (by decide) ?_
  refine W.widen (k := cells + 8) (n := slots + 160) (by omega) (by omega) ?_
  refine kk _ _ _ (LI.mk B hM hr hp hk (by omega) hxR1) hS hl
set_option maxHeartbeats 4000000 in
set_option maxRecDepth 100000 in
theorem law_case_15 {p : Program} {l : Launch} {e : Env} {s : State} {m : MethodId} {below : List Frame} {meth : Method} {c : Code} {b : Nat} {xs : Nat → Int32} {L : Nat} (C0 : lw_At p s m meth c b L xs) {D : va_G} {ct : Nat → ClassId} {tN : Nat} (E : Ev p s m #[Value.ref b] c R_law 4 code D (TY ct) tN (fun q : Nat => s.heap.size ≤ q)) {ad am : Nat → Nat} {n : Nat} {H : Heap} {locs : List Loc} {cells slots : Nat} (hS : va_S (fun q : Nat => s.heap.size ≤ q) s.heap H locs) (h : LI D (fun q : Nat => s.heap.size ≤ q) ct ad am tN n H) {ls : Array Slot} {i : Int32} (hl : lv_has ls 4 [(3, .int i), (2, .ref (am 0)), (1, .ref (ad 0)), (0, .ref b)]) (hi0 : 0 ≤ i.toInt) (hi1 : i.toInt + 5 < (L : Int)) (hLb : (L : Int) ≤ 3072) (hin : i.toInt = 6 * (n : Int)) (hcl : cells + 8 ≤ 600000) (hsl : slots + 160 ≤ 7302250) (kk : ∀ (H1 : Heap) (locs1 : List Loc) (ls1 : Array Slot), LI D (fun q : Nat => s.heap.size ≤ q) ct ad am tN (n + 1) H1 → va_S (fun q : Nat => s.heap.size ≤ q) s.heap H1 locs1 → lv_has ls1 4 [(3, .int i), (2, .ref (am 0)), (1, .ref (ad 0)), (0, .ref b)] → W p l e room_1 s m #[Value.ref b] below meth c H1 locs1 (cells + 8) (slots + 160) (lw_Z below #[Value.ref b] s) (F0 m 1569 ls1 [])) : W p l e room_1 s m #[Value.ref b] below meth c H locs cells slots (lw_Z below #[Value.ref b] s) (F0 m 795 ls []) := by
  obtain ⟨hx, hb, hr0, hml, hown, hts, hX, hbl, hlocks, hgv⟩ := id C0
  refine h _ (fun i0 i1 i2 i3 i4 i5 i6 i7 i8 i9 i10 i11 i12 i13 i14 i15 i16 i17 i18 i19 i20 i21 i22 i23 i24 i25 i26 i27 i28 i29 i30 i31 i32 i33 i34 i35 a1 a2 a4 a5 a7 a8 a10 a11 a13 a14 a15 a18 a19 a20 a21 a22 a23 a24 a25 a26 a29 a30 a31 a32 a43 a44 a45 a51 a52 a53 a54 a55 l46 r9n r9c og ogn ogc rtn rtc ptn ptc p0 p1 Pl j0 j1 j2 j3 j4 j5 j6 j7 j8 j9 j10 j11 j12 j13 j14 j15 j16 j17 j18 j19 j20 j21 j22 j23 j24 j25 j26 j27 j28 j29 b1 b2 b3 b4 b5 b6 b7 b8 b9 b10 b11 b12 b13 b14 b15 b16 b17 b18 b19 b20 b21 b22 b23 b24 b25 b26 b27 b28 b29 b30 b31 b32 b33 b34 b35 b36 b37 b38 b39 b40 b41 b42 b43 b44 b45 b46 b47 b48 b49 b50 b51 b52 b53 b55 b56 b57 b58 b61 b62 b63 b64 b65 b66 iam B hM hr hp hk hcn hxR1 => ?_)
  obtain ⟨hr1, hr2, hr3, hr4, hr5⟩ := id hr
  refine lv_aload_n hx hb dL_law_795 rfl (lv_at hl 2 rfl) ?_
  refine law_arg (kv := 1) C0 E hS hl (by decide) (by decide) (by omega) (by omega) (by omega) dL_law_796 dL_law_797 dL_law_798 dL_law_799 dL_law_800 ?_
  refine at_pc (n := 801) rfl ?_
  refine law_arg (kv := 2) C0 E hS hl (by decide) (by decide) (by omega) (by omega) (by omega) dL_law_801 dL_law_802 dL_law_803 dL_law_804 dL_law_805 ?_
  refine at_pc (n := 806) rfl ?_
  refine law_arg (kv := 3) C0 E hS hl (by decide) (by decide) (by omega) (by omega) (by omega) dL_law_806 dL_law_807 dL_law_808 dL_law_809 dL_law_810 ?_
  refine at_pc (n := 811) rfl ?_
  obtain ⟨_, Rz⟩ := B.rec0
  refine hc_VI (kn := 3) E hS B (x11_render l D tN (fun q : Nat => s.heap.size ≤ q) ((xs (i.toInt + 1).toNat)) ((xs (i.toInt + 2).toNat)) ((xs (i.toInt + 3).toNat)) (by omega)) (good_V w_932ca89b w_a396485a w_6fa4f8f0 w_93c426f0 w_6f97fd5b) Rz rfl ⟨rfl, by decide +kernel⟩ rfl rfl rfl ⟨Nat.le_of_ble_eq_true rfl, Nat.le_of_ble_eq_true rfl⟩ rfl hl (Nat.le_of_ble_eq_true rfl) dL_law_811 ⟨by show _ ≤ 600000; omega, by show _ ≤ 7302250; omega⟩ (fun v_1 H locs w_2 hS => ?_)
  have B0 := B
  obtain ⟨ni0_3, ni10_4, ni17_5, ni18_6, ni19_7, ni20_8, ni21_9, ni22_10, ni23_11, ni24_12, ni35_13, nog_14, nogn_15, nogc_16, nPl_17, hpl_18, hv_19, he_20, ex_21, ex_22, ex_23, ex_24, ex_25, ex_26, ex_27, ex_28, ex_29, ex_30, ex_31, B⟩ := w_2
  refine at_n (n := 814) (k1 := cells + 8) (k2 := slots + 48) rfl rfl rfl ?_
  refine lv_pop hx hb dL_law_814 rfl ?_
  refine lv_aload_n hx hb dL_law_815 rfl (lv_at hl 1 rfl) ?_
  refine law_arg (kv := 1) C0 E hS hl (by decide) (by decide) (by omega) (by omega) (by omega) dL_law_816 dL_law_817 dL_law_818 dL_law_819 dL_law_820 ?_
  refine at_pc (n := 821) rfl ?_
  refine law_arg (kv := 2) C0 E hS hl (by decide) (by decide) (by omega) (by omega) (by omega) dL_law_821 dL_law_822 dL_law_823 dL_law_824 dL_law_825 ?_
  refine at_pc (n := 826) rfl ?_
  refine law_arg (kv := 3) C0 E hS hl (by decide) (by decide) (by omega) (by omega) (by omega) dL_law_826 dL_law_827 dL_law_828 dL_law_829 dL_law_830 ?_
  refine at_pc (n := 831) rfl ?_
  obtain ⟨Rw, B, back⟩ := toM B hM
  obtain ⟨_, Rz⟩ := B.rec
  refine hc_VI (kn := 3) E hS B (m12_render l D tN (fun q : Nat => s.heap.size ≤ q) ((xs (i.toInt + 1).toNat)) ((xs (i.toInt + 2).toNat)) ((xs (i.toInt + 3).toNat)) hp hk) (good_V w_ea336212 w_91448f9c w_95c82333 w_2e12d08c w_695f5bab) Rz rfl ⟨rfl, by decide +kernel⟩ rfl rfl rfl ⟨Nat.le_of_ble_eq_true rfl, Nat.le_of_ble_eq_true rfl⟩ rfl hl (Nat.le_of_ble_eq_true rfl) dL_law_831 ⟨by show _ ≤ 600000; omega, by show _ ≤ 7302250; omega⟩ (fun v_32 H locs w_33 hS => ?_)
  obtain ⟨ni0_34, ni7_35, na33_36, na34_37, na36_38, na37_39, na38_40, na39_41, na40_42, na41_43, na42_44, na43_45, na46_46, hv_47, ex_48, ex_49, ex_50, B⟩ := w_33
  obtain ⟨_, B, hM⟩ := back B
  obtain ⟨hq_51, hx_52⟩ := R1_render hxR1 hk ex_21 ex_22 ex_23 ex_24 ex_25 ex_26 ex_27 ex_28 ex_29 ex_30 ex_31 ex_48 ex_49 ex_50
  refine at_n (n := 834) (k1 := cells + 8) (k2 := slots + 48) rfl rfl rfl ?_
  refine lv_pop hx hb dL_law_834 rfl ?_
  refine lv_goto (tgt := 1569) hx hb dL_law_835 (by decide) ?_
  refine W.widen (k := cells + 8) (n := slots + 160) (by omega) (by omega) ?_
  refine kk _ _ _ (LI.mk B hM ⟨by omega, by omega, by omega, by omega, by omega⟩ hp hk (by omega) hx_52) hS hl
set_option maxHeartbeats 4000000 in
set_option maxRecDepth 100000 in
theorem law_case_16 {p : Program} {l : Launch} {e : Env} {s : State} {m : MethodId} {below : List Frame} {meth : Method} {c : Code} {b : Nat} {xs : Nat → Int32} {L : Nat} (C0 : lw_At p s m meth c b L xs) {D : va_G} {ct : Nat → ClassId} {tN : Nat} (E : Ev p s m #[Value.ref b] c R_law 4 code D (TY ct) tN (fun q : Nat => s.heap.size ≤ q)) {ad am : Nat → Nat} {n : Nat} {H : Heap} {locs : List Loc} {cells slots : Nat} (hS : va_S (fun q : Nat => s.heap.size ≤ q) s.heap H locs) (h : LI D (fun q : Nat => s.heap.size ≤ q) ct ad am tN n H) {ls : Array Slot} {i : Int32} (hl : lv_has ls 4 [(3, .int i), (2, .ref (am 0)), (1, .ref (ad 0)), (0, .ref b)]) (hi0 : 0 ≤ i.toInt) (hi1 : i.toInt + 5 < (L : Int)) (hLb : (L : Int) ≤ 3072) (hin : i.toInt = 6 * (n : Int)) (hcl : cells + 8 ≤ 600000) (hsl : slots + 160 ≤ 7302250) (kk : ∀ (H1 : Heap) (locs1 : List Loc) (ls1 : Array Slot), LI D (fun q : Nat => s.heap.size ≤ q) ct ad am tN (n + 1) H1 → va_S (fun q : Nat => s.heap.size ≤ q) s.heap H1 locs1 → lv_has ls1 4 [(3, .int i), (2, .ref (am 0)), (1, .ref (ad 0)), (0, .ref b)] → W p l e room_1 s m #[Value.ref b] below meth c H1 locs1 (cells + 8) (slots + 160) (lw_Z below #[Value.ref b] s) (F0 m 1569 ls1 [])) : W p l e room_1 s m #[Value.ref b] below meth c H locs cells slots (lw_Z below #[Value.ref b] s) (F0 m 838 ls []) := by
  obtain ⟨hx, hb, hr0, hml, hown, hts, hX, hbl, hlocks, hgv⟩ := id C0
  refine h _ (fun i0 i1 i2 i3 i4 i5 i6 i7 i8 i9 i10 i11 i12 i13 i14 i15 i16 i17 i18 i19 i20 i21 i22 i23 i24 i25 i26 i27 i28 i29 i30 i31 i32 i33 i34 i35 a1 a2 a4 a5 a7 a8 a10 a11 a13 a14 a15 a18 a19 a20 a21 a22 a23 a24 a25 a26 a29 a30 a31 a32 a43 a44 a45 a51 a52 a53 a54 a55 l46 r9n r9c og ogn ogc rtn rtc ptn ptc p0 p1 Pl j0 j1 j2 j3 j4 j5 j6 j7 j8 j9 j10 j11 j12 j13 j14 j15 j16 j17 j18 j19 j20 j21 j22 j23 j24 j25 j26 j27 j28 j29 b1 b2 b3 b4 b5 b6 b7 b8 b9 b10 b11 b12 b13 b14 b15 b16 b17 b18 b19 b20 b21 b22 b23 b24 b25 b26 b27 b28 b29 b30 b31 b32 b33 b34 b35 b36 b37 b38 b39 b40 b41 b42 b43 b44 b45 b46 b47 b48 b49 b50 b51 b52 b53 b55 b56 b57 b58 b61 b62 b63 b64 b65 b66 iam B hM hr hp hk hcn hxR1 => ?_)
  refine lv_aload_n hx hb dL_law_838 rfl (lv_at hl 2 rfl) ?_
  refine law_arg (kv := 1) C0 E hS hl (by decide) (by decide) (by omega) (by omega) (by omega) dL_law_839 dL_law_840 dL_law_841 dL_law_842 dL_law_843 ?_
  refine at_pc (n := 844) rfl ?_
  refine law_arg (kv := 2) C0 E hS hl (by decide) (by decide) (by omega) (by omega) (by omega) dL_law_844 dL_law_845 dL_law_846 dL_law_847 dL_law_848 ?_
  refine at_pc (n := 849) rfl ?_
  refine law_arg (kv := 3) C0 E hS hl (by decide) (by decide) (by omega) (by omega) (by omega) dL_law_849 dL_law_850 dL_law_851 dL_law_852 dL_law_853 ?_
  refine at_pc (n := 854) rfl ?_
  refine b_eq (tgt := 861) E rfl dL_law_854 (by decide) (fun c_1 => ?_) (fun c_1 => ?_)
  · skip
    refine lv_iconst (v := 0) hx hb dL_law_861 (by decide) ?_
    obtain ⟨_, Rz⟩ := B.rec0
    refine hc_VI (kn := 3) E hS B (x11_vote l D tN (fun q : Nat => s.heap.size ≤ q) ((xs (i.toInt + 1).toNat)) ((xs (i.toInt + 2).toNat)) ((0 : Int32))) (good_V w_4fde76c4 w_b4f571f0 w_370965b0 w_93c426f0 w_6eecbd5a) Rz rfl ⟨rfl, by decide +kernel⟩ rfl rfl rfl ⟨Nat.le_of_ble_eq_true rfl, Nat.le_of_ble_eq_true rfl⟩ rfl hl (Nat.le_of_ble_eq_true rfl) dL_law_862 ⟨by show _ ≤ 600000; omega, by show _ ≤ 7302250; omega⟩ (fun v_2 H locs w_3 hS => ?_)
    have B0 := B
    obtain ⟨nog_4, hv_5, B⟩ := w_3
    refine at_n (n := 865) (k1 := cells + 0) (k2 := slots + 0) rfl rfl rfl ?_
    refine lv_pop hx hb dL_law_865 rfl ?_
    refine lv_aload_n hx hb dL_law_866 rfl (lv_at hl 1 rfl) ?_
    refine law_arg (kv := 1) C0 E hS hl (by decide) (by decide) (by omega) (by omega) (by omega) dL_law_867 dL_law_868 dL_law_869 dL_law_870 dL_law_871 ?_
    refine at_pc (n := 872) rfl ?_
    refine law_arg (kv := 2) C0 E hS hl (by decide) (by decide) (by omega) (by omega) (by omega) dL_law_872 dL_law_873 dL_law_874 dL_law_875 dL_law_876 ?_
    refine at_pc (n := 877) rfl ?_
    refine law_arg (kv := 3) C0 E hS hl (by decide) (by decide) (by omega) (by omega) (by omega) dL_law_877 dL_law_878 dL_law_879 dL_law_880 dL_law_881 ?_
    refine at_pc (n := 882) rfl ?_
    refine b_eq (tgt := 889) E rfl dL_law_882 (by decide) (fun c_6 => ?_) (fun c_6 => ?_)
    · skip
      refine lv_iconst (v := 0) hx hb dL_law_889 (by decide) ?_
      obtain ⟨Rw, B, back⟩ := toM B hM
      obtain ⟨_, Rz⟩ := B.rec
      refine hc_VI (kn := 3) E hS B (m12_vote l D tN (fun q : Nat => s.heap.size ≤ q) ((xs (i.toInt + 1).toNat)) ((xs (i.toInt + 2).toNat)) ((0 : Int32))) (good_V w_974aaccb w_8d3a098d w_6fcfb92a w_2e12d08c w_c2f40d7d) Rz rfl ⟨rfl, by decide +kernel⟩ rfl rfl rfl ⟨Nat.le_of_ble_eq_true rfl, Nat.le_of_ble_eq_true rfl⟩ rfl hl (Nat.le_of_ble_eq_true rfl) dL_law_890 ⟨by show _ ≤ 600000; omega, by show _ ≤ 7302250; omega⟩ (fun v_7 H locs w_8 hS => ?_)
      obtain ⟨na49_9, na50_10, hv_11, B⟩ := w_8
      obtain ⟨_, B, hM⟩ := back B
      refine at_n (n := 893) (k1 := cells + 0) (k2 := slots + 0) rfl rfl rfl ?_
      refine lv_pop hx hb dL_law_893 rfl ?_
      refine lv_goto (tgt := 1569) hx hb dL_law_894 (by decide) ?_
      refine W.widen (k := cells + 8) (n := slots + 160) (by omega) (by omega) ?_
      refine kk _ _ _ (LI.mk B hM hr hp hk (by omega) hxR1) hS hl
    · exfalso; omega
  · skip
    refine lv_iconst (v := 1) hx hb dL_law_857 (by decide) ?_
    refine lv_goto (tgt := 862) hx hb dL_law_858 (by decide) ?_
    obtain ⟨_, Rz⟩ := B.rec0
    refine hc_VI (kn := 3) E hS B (x11_vote l D tN (fun q : Nat => s.heap.size ≤ q) ((xs (i.toInt + 1).toNat)) ((xs (i.toInt + 2).toNat)) ((1 : Int32))) (good_V w_4fde76c4 w_b4f571f0 w_370965b0 w_93c426f0 w_6eecbd5a) Rz rfl ⟨rfl, by decide +kernel⟩ rfl rfl rfl ⟨Nat.le_of_ble_eq_true rfl, Nat.le_of_ble_eq_true rfl⟩ rfl hl (Nat.le_of_ble_eq_true rfl) dL_law_862 ⟨by show _ ≤ 600000; omega, by show _ ≤ 7302250; omega⟩ (fun v_12 H locs w_13 hS => ?_)
    have B0 := B
    obtain ⟨nog_14, hv_15, B⟩ := w_13
    refine at_n (n := 865) (k1 := cells + 0) (k2 := slots + 0) rfl rfl rfl ?_
    refine lv_pop hx hb dL_law_865 rfl ?_
    refine lv_aload_n hx hb dL_law_866 rfl (lv_at hl 1 rfl) ?_
    refine law_arg (kv := 1) C0 E hS hl (by decide) (by decide) (by omega) (by omega) (by omega) dL_law_867 dL_law_868 dL_law_869 dL_law_870 dL_law_871 ?_
    refine at_pc (n := 872) rfl ?_
    refine law_arg (kv := 2) C0 E hS hl (by decide) (by decide) (by omega) (by omega) (by omega) dL_law_872 dL_law_873 dL_law_874 dL_law_875 dL_law_876 ?_
    refine at_pc (n := 877) rfl ?_
    refine law_arg (kv := 3) C0 E hS hl (by decide) (by decide) (by omega) (by omega) (by omega) dL_law_877 dL_law_878 dL_law_879 dL_law_880 dL_law_881 ?_
    refine at_pc (n := 882) rfl ?_
    refine b_eq (tgt := 889) E rfl dL_law_882 (by decide) (fun c_16 => ?_) (fun c_16 => ?_)
    · exfalso; omega
    · skip
      refine lv_iconst (v := 1) hx hb dL_law_885 (by decide) ?_
      refine lv_goto (tgt := 890) hx hb dL_law_886 (by decide) ?_
      obtain ⟨Rw, B, back⟩ := toM B hM
      obtain ⟨_, Rz⟩ := B.rec
      refine hc_VI (kn := 3) E hS B (m12_vote l D tN (fun q : Nat => s.heap.size ≤ q) ((xs (i.toInt + 1).toNat)) ((xs (i.toInt + 2).toNat)) ((1 : Int32))) (good_V w_974aaccb w_8d3a098d w_6fcfb92a w_2e12d08c w_c2f40d7d) Rz rfl ⟨rfl, by decide +kernel⟩ rfl rfl rfl ⟨Nat.le_of_ble_eq_true rfl, Nat.le_of_ble_eq_true rfl⟩ rfl hl (Nat.le_of_ble_eq_true rfl) dL_law_890 ⟨by show _ ≤ 600000; omega, by show _ ≤ 7302250; omega⟩ (fun v_17 H locs w_18 hS => ?_)
      obtain ⟨na49_19, na50_20, hv_21, B⟩ := w_18
      obtain ⟨_, B, hM⟩ := back B
      refine at_n (n := 893) (k1 := cells + 0) (k2 := slots + 0) rfl rfl rfl ?_
      refine lv_pop hx hb dL_law_893 rfl ?_
      refine lv_goto (tgt := 1569) hx hb dL_law_894 (by decide) ?_
      refine W.widen (k := cells + 8) (n := slots + 160) (by omega) (by omega) ?_
      refine kk _ _ _ (LI.mk B hM hr hp hk (by omega) hxR1) hS hl
set_option maxHeartbeats 4000000 in
set_option maxRecDepth 100000 in
theorem law_case_17 {p : Program} {l : Launch} {e : Env} {s : State} {m : MethodId} {below : List Frame} {meth : Method} {c : Code} {b : Nat} {xs : Nat → Int32} {L : Nat} (C0 : lw_At p s m meth c b L xs) {D : va_G} {ct : Nat → ClassId} {tN : Nat} (E : Ev p s m #[Value.ref b] c R_law 4 code D (TY ct) tN (fun q : Nat => s.heap.size ≤ q)) {ad am : Nat → Nat} {n : Nat} {H : Heap} {locs : List Loc} {cells slots : Nat} (hS : va_S (fun q : Nat => s.heap.size ≤ q) s.heap H locs) (h : LI D (fun q : Nat => s.heap.size ≤ q) ct ad am tN n H) {ls : Array Slot} {i : Int32} (hl : lv_has ls 4 [(3, .int i), (2, .ref (am 0)), (1, .ref (ad 0)), (0, .ref b)]) (hi0 : 0 ≤ i.toInt) (hi1 : i.toInt + 5 < (L : Int)) (hLb : (L : Int) ≤ 3072) (hin : i.toInt = 6 * (n : Int)) (hcl : cells + 8 ≤ 600000) (hsl : slots + 160 ≤ 7302250) (kk : ∀ (H1 : Heap) (locs1 : List Loc) (ls1 : Array Slot), LI D (fun q : Nat => s.heap.size ≤ q) ct ad am tN (n + 1) H1 → va_S (fun q : Nat => s.heap.size ≤ q) s.heap H1 locs1 → lv_has ls1 4 [(3, .int i), (2, .ref (am 0)), (1, .ref (ad 0)), (0, .ref b)] → W p l e room_1 s m #[Value.ref b] below meth c H1 locs1 (cells + 8) (slots + 160) (lw_Z below #[Value.ref b] s) (F0 m 1569 ls1 [])) : W p l e room_1 s m #[Value.ref b] below meth c H locs cells slots (lw_Z below #[Value.ref b] s) (F0 m 897 ls []) := by
  obtain ⟨hx, hb, hr0, hml, hown, hts, hX, hbl, hlocks, hgv⟩ := id C0
  refine h _ (fun i0 i1 i2 i3 i4 i5 i6 i7 i8 i9 i10 i11 i12 i13 i14 i15 i16 i17 i18 i19 i20 i21 i22 i23 i24 i25 i26 i27 i28 i29 i30 i31 i32 i33 i34 i35 a1 a2 a4 a5 a7 a8 a10 a11 a13 a14 a15 a18 a19 a20 a21 a22 a23 a24 a25 a26 a29 a30 a31 a32 a43 a44 a45 a51 a52 a53 a54 a55 l46 r9n r9c og ogn ogc rtn rtc ptn ptc p0 p1 Pl j0 j1 j2 j3 j4 j5 j6 j7 j8 j9 j10 j11 j12 j13 j14 j15 j16 j17 j18 j19 j20 j21 j22 j23 j24 j25 j26 j27 j28 j29 b1 b2 b3 b4 b5 b6 b7 b8 b9 b10 b11 b12 b13 b14 b15 b16 b17 b18 b19 b20 b21 b22 b23 b24 b25 b26 b27 b28 b29 b30 b31 b32 b33 b34 b35 b36 b37 b38 b39 b40 b41 b42 b43 b44 b45 b46 b47 b48 b49 b50 b51 b52 b53 b55 b56 b57 b58 b61 b62 b63 b64 b65 b66 iam B hM hr hp hk hcn hxR1 => ?_)
  refine lv_aload_n hx hb dL_law_897 rfl (lv_at hl 2 rfl) ?_
  refine law_arg (kv := 1) C0 E hS hl (by decide) (by decide) (by omega) (by omega) (by omega) dL_law_898 dL_law_899 dL_law_900 dL_law_901 dL_law_902 ?_
  refine at_pc (n := 903) rfl ?_
  obtain ⟨_, Rz⟩ := B.rec0
  refine hc_VI (kn := 1) E hS B (x11_close l D tN (fun q : Nat => s.heap.size ≤ q) ((xs (i.toInt + 1).toNat))) (good_V w_0473f105 w_0689e85d w_b4581049 w_93c426f0 w_e5cadf7f) Rz rfl ⟨rfl, by decide +kernel⟩ rfl rfl rfl ⟨Nat.le_of_ble_eq_true rfl, Nat.le_of_ble_eq_true rfl⟩ rfl hl (Nat.le_of_ble_eq_true rfl) dL_law_903 ⟨by show _ ≤ 600000; omega, by show _ ≤ 7302250; omega⟩ (fun v_1 H locs w_2 hS => ?_)
  have B0 := B
  obtain ⟨ni11_3, ni17_4, ni18_5, ni19_6, ni20_7, ni21_8, ni22_9, ni23_10, ni24_11, na29_12, na30_13, na31_14, na32_15, nog_16, B⟩ := w_2
  refine at_n (n := 906) (k1 := cells + 0) (k2 := slots + 0) rfl rfl rfl ?_
  refine lv_pop hx hb dL_law_906 rfl ?_
  refine lv_aload_n hx hb dL_law_907 rfl (lv_at hl 1 rfl) ?_
  refine law_arg (kv := 1) C0 E hS hl (by decide) (by decide) (by omega) (by omega) (by omega) dL_law_908 dL_law_909 dL_law_910 dL_law_911 dL_law_912 ?_
  refine at_pc (n := 913) rfl ?_
  obtain ⟨Rw, B, back⟩ := toM B hM
  obtain ⟨_, Rz⟩ := B.rec
  refine hc_VI (kn := 1) E hS B (m12_close l D tN (fun q : Nat => s.heap.size ≤ q) ((xs (i.toInt + 1).toNat)) (by omega)) (good_V w_aa82996e w_a31c6d11 w_b6a93ec1 w_2e12d08c w_0919aae7) Rz rfl ⟨rfl, by decide +kernel⟩ rfl rfl rfl ⟨Nat.le_of_ble_eq_true rfl, Nat.le_of_ble_eq_true rfl⟩ rfl hl (Nat.le_of_ble_eq_true rfl) dL_law_913 ⟨by show _ ≤ 600000; omega, by show _ ≤ 7302250; omega⟩ (fun v_17 H locs w_18 hS => ?_)
  obtain ⟨ni18_19, na35_20, na43_21, na44_22, na45_23, na46_24, na47_25, na48_26, na51_27, na52_28, na53_29, he_30, B⟩ := w_18
  obtain ⟨_, B, hM⟩ := back B
  refine at_n (n := 916) (k1 := cells + 0) (k2 := slots + 0) rfl rfl rfl ?_
  refine lv_pop hx hb dL_law_916 rfl ?_
  refine lv_goto (tgt := 1569) hx hb dL_law_917 (by decide) ?_
  refine W.widen (k := cells + 8) (n := slots + 160) (by omega) (by omega) ?_
  refine kk _ _ _ (LI.mk B hM hr hp hk (by omega) hxR1) hS hl
set_option maxHeartbeats 4000000 in
set_option maxRecDepth 100000 in
theorem law_case_18 {p : Program} {l : Launch} {e : Env} {s : State} {m : MethodId} {below : List Frame} {meth : Method} {c : Code} {b : Nat} {xs : Nat → Int32} {L : Nat} (C0 : lw_At p s m meth c b L xs) {D : va_G} {ct : Nat → ClassId} {tN : Nat} (E : Ev p s m #[Value.ref b] c R_law 4 code D (TY ct) tN (fun q : Nat => s.heap.size ≤ q)) {ad am : Nat → Nat} {n : Nat} {H : Heap} {locs : List Loc} {cells slots : Nat} (hS : va_S (fun q : Nat => s.heap.size ≤ q) s.heap H locs) (h : LI D (fun q : Nat => s.heap.size ≤ q) ct ad am tN n H) {ls : Array Slot} {i : Int32} (hl : lv_has ls 4 [(3, .int i), (2, .ref (am 0)), (1, .ref (ad 0)), (0, .ref b)]) (hi0 : 0 ≤ i.toInt) (hi1 : i.toInt + 5 < (L : Int)) (hLb : (L : Int) ≤ 3072) (hin : i.toInt = 6 * (n : Int)) (hcl : cells + 8 ≤ 600000) (hsl : slots + 160 ≤ 7302250) (kk : ∀ (H1 : Heap) (locs1 : List Loc) (ls1 : Array Slot), LI D (fun q : Nat => s.heap.size ≤ q) ct ad am tN (n + 1) H1 → va_S (fun q : Nat => s.heap.size ≤ q) s.heap H1 locs1 → lv_has ls1 4 [(3, .int i), (2, .ref (am 0)), (1, .ref (ad 0)), (0, .ref b)] → W p l e room_1 s m #[Value.ref b] below meth c H1 locs1 (cells + 8) (slots + 160) (lw_Z below #[Value.ref b] s) (F0 m 1569 ls1 [])) : W p l e room_1 s m #[Value.ref b] below meth c H locs cells slots (lw_Z below #[Value.ref b] s) (F0 m 920 ls []) := by
  obtain ⟨hx, hb, hr0, hml, hown, hts, hX, hbl, hlocks, hgv⟩ := id C0
  refine h _ (fun i0 i1 i2 i3 i4 i5 i6 i7 i8 i9 i10 i11 i12 i13 i14 i15 i16 i17 i18 i19 i20 i21 i22 i23 i24 i25 i26 i27 i28 i29 i30 i31 i32 i33 i34 i35 a1 a2 a4 a5 a7 a8 a10 a11 a13 a14 a15 a18 a19 a20 a21 a22 a23 a24 a25 a26 a29 a30 a31 a32 a43 a44 a45 a51 a52 a53 a54 a55 l46 r9n r9c og ogn ogc rtn rtc ptn ptc p0 p1 Pl j0 j1 j2 j3 j4 j5 j6 j7 j8 j9 j10 j11 j12 j13 j14 j15 j16 j17 j18 j19 j20 j21 j22 j23 j24 j25 j26 j27 j28 j29 b1 b2 b3 b4 b5 b6 b7 b8 b9 b10 b11 b12 b13 b14 b15 b16 b17 b18 b19 b20 b21 b22 b23 b24 b25 b26 b27 b28 b29 b30 b31 b32 b33 b34 b35 b36 b37 b38 b39 b40 b41 b42 b43 b44 b45 b46 b47 b48 b49 b50 b51 b52 b53 b55 b56 b57 b58 b61 b62 b63 b64 b65 b66 iam B hM hr hp hk hcn hxR1 => ?_)
  refine lv_aload_n hx hb dL_law_920 rfl (lv_at hl 2 rfl) ?_
  refine law_arg (kv := 1) C0 E hS hl (by decide) (by decide) (by omega) (by omega) (by omega) dL_law_921 dL_law_922 dL_law_923 dL_law_924 dL_law_925 ?_
  refine at_pc (n := 926) rfl ?_
  obtain ⟨_, Rz⟩ := B.rec0
  refine hc_VI (kn := 1) E hS B (x11_voids l D tN (fun q : Nat => s.heap.size ≤ q) ((xs (i.toInt + 1).toNat))) (good_V w_65ecb956 w_3ecde7bb w_a082927b w_93c426f0 w_ed119f70) Rz rfl ⟨rfl, by decide +kernel⟩ rfl rfl rfl ⟨Nat.le_of_ble_eq_true rfl, Nat.le_of_ble_eq_true rfl⟩ rfl hl (Nat.le_of_ble_eq_true rfl) dL_law_926 ⟨by show _ ≤ 600000; omega, by show _ ≤ 7302250; omega⟩ (fun v_1 H locs w_2 hS => ?_)
  have B0 := B
  obtain ⟨ni8_3, ni11_4, na29_5, na30_6, na31_7, na32_8, nog_9, ex_10, B⟩ := w_2
  refine at_n (n := 929) (k1 := cells + 0) (k2 := slots + 0) rfl rfl rfl ?_
  refine lv_pop hx hb dL_law_929 rfl ?_
  refine lv_aload_n hx hb dL_law_930 rfl (lv_at hl 1 rfl) ?_
  refine law_arg (kv := 1) C0 E hS hl (by decide) (by decide) (by omega) (by omega) (by omega) dL_law_931 dL_law_932 dL_law_933 dL_law_934 dL_law_935 ?_
  refine at_pc (n := 936) rfl ?_
  obtain ⟨Rw, B, back⟩ := toM B hM
  obtain ⟨_, Rz⟩ := B.rec
  refine hc_VI (kn := 1) E hS B (m12_voids l D tN (fun q : Nat => s.heap.size ≤ q) ((xs (i.toInt + 1).toNat)) (by omega)) (good_V w_ffe2779c w_249a1c6c w_2b5676f4 w_2e12d08c w_decef28a) Rz rfl ⟨rfl, by decide +kernel⟩ rfl rfl rfl ⟨Nat.le_of_ble_eq_true rfl, Nat.le_of_ble_eq_true rfl⟩ rfl hl (Nat.le_of_ble_eq_true rfl) dL_law_936 ⟨by show _ ≤ 600000; omega, by show _ ≤ 7302250; omega⟩ (fun v_11 H locs w_12 hS => ?_)
  obtain ⟨ni18_13, na12_14, na35_15, na43_16, na44_17, na45_18, na46_19, na47_20, na51_21, na52_22, na53_23, he_24, ex_25, B⟩ := w_12
  obtain ⟨_, B, hM⟩ := back B
  obtain ⟨hq_26, hx_27⟩ := R1_voids hxR1 ex_10 ex_25
  refine at_n (n := 939) (k1 := cells + 0) (k2 := slots + 0) rfl rfl rfl ?_
  refine lv_pop hx hb dL_law_939 rfl ?_
  refine lv_goto (tgt := 1569) hx hb dL_law_940 (by decide) ?_
  refine W.widen (k := cells + 8) (n := slots + 160) (by omega) (by omega) ?_
  refine kk _ _ _ (LI.mk B hM hr hp hk (by omega) hx_27) hS hl
set_option maxHeartbeats 4000000 in
set_option maxRecDepth 100000 in
theorem law_case_19 {p : Program} {l : Launch} {e : Env} {s : State} {m : MethodId} {below : List Frame} {meth : Method} {c : Code} {b : Nat} {xs : Nat → Int32} {L : Nat} (C0 : lw_At p s m meth c b L xs) {D : va_G} {ct : Nat → ClassId} {tN : Nat} (E : Ev p s m #[Value.ref b] c R_law 4 code D (TY ct) tN (fun q : Nat => s.heap.size ≤ q)) {ad am : Nat → Nat} {n : Nat} {H : Heap} {locs : List Loc} {cells slots : Nat} (hS : va_S (fun q : Nat => s.heap.size ≤ q) s.heap H locs) (h : LI D (fun q : Nat => s.heap.size ≤ q) ct ad am tN n H) {ls : Array Slot} {i : Int32} (hl : lv_has ls 4 [(3, .int i), (2, .ref (am 0)), (1, .ref (ad 0)), (0, .ref b)]) (hi0 : 0 ≤ i.toInt) (hi1 : i.toInt + 5 < (L : Int)) (hLb : (L : Int) ≤ 3072) (hin : i.toInt = 6 * (n : Int)) (hcl : cells + 8 ≤ 600000) (hsl : slots + 160 ≤ 7302250) (kk : ∀ (H1 : Heap) (locs1 : List Loc) (ls1 : Array Slot), LI D (fun q : Nat => s.heap.size ≤ q) ct ad am tN (n + 1) H1 → va_S (fun q : Nat => s.heap.size ≤ q) s.heap H1 locs1 → lv_has ls1 4 [(3, .int i), (2, .ref (am 0)), (1, .ref (ad 0)), (0, .ref b)] → W p l e room_1 s m #[Value.ref b] below meth c H1 locs1 (cells + 8) (slots + 160) (lw_Z below #[Value.ref b] s) (F0 m 1569 ls1 [])) : W p l e room_1 s m #[Value.ref b] below meth c H locs cells slots (lw_Z below #[Value.ref b] s) (F0 m 943 ls []) := by
  obtain ⟨hx, hb, hr0, hml, hown, hts, hX, hbl, hlocks, hgv⟩ := id C0
  refine h _ (fun i0 i1 i2 i3 i4 i5 i6 i7 i8 i9 i10 i11 i12 i13 i14 i15 i16 i17 i18 i19 i20 i21 i22 i23 i24 i25 i26 i27 i28 i29 i30 i31 i32 i33 i34 i35 a1 a2 a4 a5 a7 a8 a10 a11 a13 a14 a15 a18 a19 a20 a21 a22 a23 a24 a25 a26 a29 a30 a31 a32 a43 a44 a45 a51 a52 a53 a54 a55 l46 r9n r9c og ogn ogc rtn rtc ptn ptc p0 p1 Pl j0 j1 j2 j3 j4 j5 j6 j7 j8 j9 j10 j11 j12 j13 j14 j15 j16 j17 j18 j19 j20 j21 j22 j23 j24 j25 j26 j27 j28 j29 b1 b2 b3 b4 b5 b6 b7 b8 b9 b10 b11 b12 b13 b14 b15 b16 b17 b18 b19 b20 b21 b22 b23 b24 b25 b26 b27 b28 b29 b30 b31 b32 b33 b34 b35 b36 b37 b38 b39 b40 b41 b42 b43 b44 b45 b46 b47 b48 b49 b50 b51 b52 b53 b55 b56 b57 b58 b61 b62 b63 b64 b65 b66 iam B hM hr hp hk hcn hxR1 => ?_)
  refine lv_aload_n hx hb dL_law_943 rfl (lv_at hl 2 rfl) ?_
  refine law_arg (kv := 1) C0 E hS hl (by decide) (by decide) (by omega) (by omega) (by omega) dL_law_944 dL_law_945 dL_law_946 dL_law_947 dL_law_948 ?_
  refine at_pc (n := 949) rfl ?_
  obtain ⟨_, Rz⟩ := B.rec0
  refine hc_VI (kn := 1) E hS B (x11_fixed l D tN (fun q : Nat => s.heap.size ≤ q) ((xs (i.toInt + 1).toNat))) (good_V w_6e07ec7c w_ba98b7b1 w_f952192f w_93c426f0 w_a74fe79d) Rz rfl ⟨rfl, by decide +kernel⟩ rfl rfl rfl ⟨Nat.le_of_ble_eq_true rfl, Nat.le_of_ble_eq_true rfl⟩ rfl hl (Nat.le_of_ble_eq_true rfl) dL_law_949 ⟨by show _ ≤ 600000; omega, by show _ ≤ 7302250; omega⟩ (fun v_1 H locs w_2 hS => ?_)
  have B0 := B
  have B := w_2
  refine at_n (n := 952) (k1 := cells + 0) (k2 := slots + 0) rfl rfl rfl ?_
  refine lv_pop hx hb dL_law_952 rfl ?_
  refine lv_aload_n hx hb dL_law_953 rfl (lv_at hl 1 rfl) ?_
  refine law_arg (kv := 1) C0 E hS hl (by decide) (by decide) (by omega) (by omega) (by omega) dL_law_954 dL_law_955 dL_law_956 dL_law_957 dL_law_958 ?_
  refine at_pc (n := 959) rfl ?_
  obtain ⟨Rw, B, back⟩ := toM B hM
  obtain ⟨_, Rz⟩ := B.rec
  refine hc_VI (kn := 1) E hS B (m12_fixed l D tN (fun q : Nat => s.heap.size ≤ q) ((xs (i.toInt + 1).toNat))) (good_V w_fb4ab446 w_dc1fbd86 w_305ae2f2 w_2e12d08c w_735cc990) Rz rfl ⟨rfl, by decide +kernel⟩ rfl rfl rfl ⟨Nat.le_of_ble_eq_true rfl, Nat.le_of_ble_eq_true rfl⟩ rfl hl (Nat.le_of_ble_eq_true rfl) dL_law_959 ⟨by show _ ≤ 600000; omega, by show _ ≤ 7302250; omega⟩ (fun v_3 H locs w_4 hS => ?_)
  obtain ⟨hv_5, B⟩ := w_4
  obtain ⟨_, B, hM⟩ := back B
  refine at_n (n := 962) (k1 := cells + 0) (k2 := slots + 0) rfl rfl rfl ?_
  refine lv_pop hx hb dL_law_962 rfl ?_
  refine lv_goto (tgt := 1569) hx hb dL_law_963 (by decide) ?_
  refine W.widen (k := cells + 8) (n := slots + 160) (by omega) (by omega) ?_
  refine kk _ _ _ (LI.mk B hM hr hp hk (by omega) hxR1) hS hl
