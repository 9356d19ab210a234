/-! the law: its instructions -/
set_option maxRecDepth 100000 in
theorem dL_574 : decode code 574 = .ok (.iload_n 3, 1) := by decide +kernel
set_option maxRecDepth 100000 in
theorem dL_575 : decode code 575 = .ok (.iconst 2, 1) := by decide +kernel
set_option maxRecDepth 100000 in
theorem dL_576 : decode code 576 = .ok (.iadd, 1) := by decide +kernel
set_option maxRecDepth 100000 in
theorem dL_577 : decode code 577 = .ok (.iaload, 1) := by decide +kernel
set_option maxRecDepth 100000 in
theorem dL_578 : decode code 578 = .ok (.invokevirtual 77, 3) := by decide +kernel
set_option maxRecDepth 100000 in
theorem dL_581 : decode code 581 = .ok (.if_icmp .eq 404, 3) := by decide +kernel
set_option maxRecDepth 100000 in
theorem dL_584 : decode code 584 = .ok (.iconst 0, 1) := by decide +kernel
set_option maxRecDepth 100000 in
theorem dL_585 : decode code 585 = .ok (.ireturn, 1) := by decide +kernel
set_option maxRecDepth 100000 in
theorem dL_586 : decode code 586 = .ok (.aload_n 1, 1) := by decide +kernel
set_option maxRecDepth 100000 in
theorem dL_587 : decode code 587 = .ok (.aload_n 0, 1) := by decide +kernel
set_option maxRecDepth 100000 in
theorem dL_588 : decode code 588 = .ok (.iload_n 3, 1) := by decide +kernel
set_option maxRecDepth 100000 in
theorem dL_589 : decode code 589 = .ok (.iconst 1, 1) := by decide +kernel
set_option maxRecDepth 100000 in
theorem dL_590 : decode code 590 = .ok (.iadd, 1) := by decide +kernel
set_option maxRecDepth 100000 in
theorem dL_591 : decode code 591 = .ok (.iaload, 1) := by decide +kernel
set_option maxRecDepth 100000 in
theorem dL_592 : decode code 592 = .ok (.aload_n 0, 1) := by decide +kernel
set_option maxRecDepth 100000 in
theorem dL_593 : decode code 593 = .ok (.iload_n 3, 1) := by decide +kernel
set_option maxRecDepth 100000 in
theorem dL_594 : decode code 594 = .ok (.iconst 2, 1) := by decide +kernel
set_option maxRecDepth 100000 in
theorem dL_595 : decode code 595 = .ok (.iadd, 1) := by decide +kernel
set_option maxRecDepth 100000 in
theorem dL_596 : decode code 596 = .ok (.iaload, 1) := by decide +kernel
set_option maxRecDepth 100000 in
theorem dL_597 : decode code 597 = .ok (.invokevirtual 78, 3) := by decide +kernel
set_option maxRecDepth 100000 in
theorem dL_600 : decode code 600 = .ok (.aload_n 2, 1) := by decide +kernel
set_option maxRecDepth 100000 in
theorem dL_601 : decode code 601 = .ok (.aload_n 0, 1) := by decide +kernel
set_option maxRecDepth 100000 in
theorem dL_602 : decode code 602 = .ok (.iload_n 3, 1) := by decide +kernel
set_option maxRecDepth 100000 in
theorem dL_603 : decode code 603 = .ok (.iconst 1, 1) := by decide +kernel
set_option maxRecDepth 100000 in
theorem dL_604 : decode code 604 = .ok (.iadd, 1) := by decide +kernel
set_option maxRecDepth 100000 in
theorem dL_605 : decode code 605 = .ok (.iaload, 1) := by decide +kernel
set_option maxRecDepth 100000 in
theorem dL_606 : decode code 606 = .ok (.aload_n 0, 1) := by decide +kernel
set_option maxRecDepth 100000 in
theorem dL_607 : decode code 607 = .ok (.iload_n 3, 1) := by decide +kernel
set_option maxRecDepth 100000 in
theorem dL_608 : decode code 608 = .ok (.iconst 2, 1) := by decide +kernel
set_option maxRecDepth 100000 in
theorem dL_609 : decode code 609 = .ok (.iadd, 1) := by decide +kernel
set_option maxRecDepth 100000 in
theorem dL_610 : decode code 610 = .ok (.iaload, 1) := by decide +kernel
set_option maxRecDepth 100000 in
theorem dL_611 : decode code 611 = .ok (.invokevirtual 81, 3) := by decide +kernel
set_option maxRecDepth 100000 in
theorem dL_614 : decode code 614 = .ok (.if_icmp .eq 371, 3) := by decide +kernel
set_option maxRecDepth 100000 in
theorem dL_617 : decode code 617 = .ok (.iconst 0, 1) := by decide +kernel
set_option maxRecDepth 100000 in
theorem dL_618 : decode code 618 = .ok (.ireturn, 1) := by decide +kernel
set_option maxRecDepth 100000 in
theorem dL_619 : decode code 619 = .ok (.aload_n 1, 1) := by decide +kernel
set_option maxRecDepth 100000 in
theorem dL_620 : decode code 620 = .ok (.aload_n 0, 1) := by decide +kernel
set_option maxRecDepth 100000 in
theorem dL_621 : decode code 621 = .ok (.iload_n 3, 1) := by decide +kernel
set_option maxRecDepth 100000 in
theorem dL_622 : decode code 622 = .ok (.iconst 1, 1) := by decide +kernel
set_option maxRecDepth 100000 in
theorem dL_623 : decode code 623 = .ok (.iadd, 1) := by decide +kernel
set_option maxRecDepth 100000 in
theorem dL_624 : decode code 624 = .ok (.iaload, 1) := by decide +kernel
set_option maxRecDepth 100000 in
theorem dL_625 : decode code 625 = .ok (.aload_n 0, 1) := by decide +kernel
set_option maxRecDepth 100000 in
theorem dL_626 : decode code 626 = .ok (.iload_n 3, 1) := by decide +kernel
set_option maxRecDepth 100000 in
theorem dL_627 : decode code 627 = .ok (.iconst 2, 1) := by decide +kernel
set_option maxRecDepth 100000 in
theorem dL_628 : decode code 628 = .ok (.iadd, 1) := by decide +kernel
set_option maxRecDepth 100000 in
theorem dL_629 : decode code 629 = .ok (.iaload, 1) := by decide +kernel
set_option maxRecDepth 100000 in
theorem dL_630 : decode code 630 = .ok (.invokevirtual 82, 3) := by decide +kernel
set_option maxRecDepth 100000 in
theorem dL_633 : decode code 633 = .ok (.aload_n 2, 1) := by decide +kernel
set_option maxRecDepth 100000 in
theorem dL_634 : decode code 634 = .ok (.aload_n 0, 1) := by decide +kernel
set_option maxRecDepth 100000 in
theorem dL_635 : decode code 635 = .ok (.iload_n 3, 1) := by decide +kernel
set_option maxRecDepth 100000 in
theorem dL_636 : decode code 636 = .ok (.iconst 1, 1) := by decide +kernel
set_option maxRecDepth 100000 in
theorem dL_637 : decode code 637 = .ok (.iadd, 1) := by decide +kernel
set_option maxRecDepth 100000 in
theorem dL_638 : decode code 638 = .ok (.iaload, 1) := by decide +kernel
set_option maxRecDepth 100000 in
theorem dL_639 : decode code 639 = .ok (.aload_n 0, 1) := by decide +kernel
set_option maxRecDepth 100000 in
theorem dL_640 : decode code 640 = .ok (.iload_n 3, 1) := by decide +kernel
set_option maxRecDepth 100000 in
theorem dL_641 : decode code 641 = .ok (.iconst 2, 1) := by decide +kernel
set_option maxRecDepth 100000 in
theorem dL_642 : decode code 642 = .ok (.iadd, 1) := by decide +kernel
set_option maxRecDepth 100000 in
theorem dL_643 : decode code 643 = .ok (.iaload, 1) := by decide +kernel
set_option maxRecDepth 100000 in
theorem dL_644 : decode code 644 = .ok (.invokevirtual 85, 3) := by decide +kernel
set_option maxRecDepth 100000 in
theorem dL_647 : decode code 647 = .ok (.if_icmp .eq 338, 3) := by decide +kernel
set_option maxRecDepth 100000 in
theorem dL_650 : decode code 650 = .ok (.iconst 0, 1) := by decide +kernel
set_option maxRecDepth 100000 in
theorem dL_651 : decode code 651 = .ok (.ireturn, 1) := by decide +kernel
set_option maxRecDepth 100000 in
theorem dL_652 : decode code 652 = .ok (.aload_n 1, 1) := by decide +kernel
set_option maxRecDepth 100000 in
theorem dL_653 : decode code 653 = .ok (.aload_n 0, 1) := by decide +kernel
set_option maxRecDepth 100000 in
theorem dL_654 : decode code 654 = .ok (.iload_n 3, 1) := by decide +kernel
set_option maxRecDepth 100000 in
theorem dL_655 : decode code 655 = .ok (.iconst 1, 1) := by decide +kernel
set_option maxRecDepth 100000 in
theorem dL_656 : decode code 656 = .ok (.iadd, 1) := by decide +kernel
set_option maxRecDepth 100000 in
theorem dL_657 : decode code 657 = .ok (.iaload, 1) := by decide +kernel
set_option maxRecDepth 100000 in
theorem dL_658 : decode code 658 = .ok (.aload_n 0, 1) := by decide +kernel
set_option maxRecDepth 100000 in
theorem dL_659 : decode code 659 = .ok (.iload_n 3, 1) := by decide +kernel
set_option maxRecDepth 100000 in
theorem dL_660 : decode code 660 = .ok (.iconst 2, 1) := by decide +kernel
set_option maxRecDepth 100000 in
theorem dL_661 : decode code 661 = .ok (.iadd, 1) := by decide +kernel
set_option maxRecDepth 100000 in
theorem dL_662 : decode code 662 = .ok (.iaload, 1) := by decide +kernel
set_option maxRecDepth 100000 in
theorem dL_663 : decode code 663 = .ok (.aload_n 0, 1) := by decide +kernel
set_option maxRecDepth 100000 in
theorem dL_664 : decode code 664 = .ok (.iload_n 3, 1) := by decide +kernel
set_option maxRecDepth 100000 in
theorem dL_665 : decode code 665 = .ok (.iconst 3, 1) := by decide +kernel
set_option maxRecDepth 100000 in
theorem dL_666 : decode code 666 = .ok (.iadd, 1) := by decide +kernel
set_option maxRecDepth 100000 in
theorem dL_667 : decode code 667 = .ok (.iaload, 1) := by decide +kernel
set_option maxRecDepth 100000 in
theorem dL_668 : decode code 668 = .ok (.invokevirtual 86, 3) := by decide +kernel
set_option maxRecDepth 100000 in
theorem dL_671 : decode code 671 = .ok (.aload_n 2, 1) := by decide +kernel
set_option maxRecDepth 100000 in
theorem dL_672 : decode code 672 = .ok (.aload_n 0, 1) := by decide +kernel
set_option maxRecDepth 100000 in
theorem dL_673 : decode code 673 = .ok (.iload_n 3, 1) := by decide +kernel
set_option maxRecDepth 100000 in
theorem dL_674 : decode code 674 = .ok (.iconst 1, 1) := by decide +kernel
set_option maxRecDepth 100000 in
theorem dL_675 : decode code 675 = .ok (.iadd, 1) := by decide +kernel
set_option maxRecDepth 100000 in
theorem dL_676 : decode code 676 = .ok (.iaload, 1) := by decide +kernel
set_option maxRecDepth 100000 in
theorem dL_677 : decode code 677 = .ok (.aload_n 0, 1) := by decide +kernel
set_option maxRecDepth 100000 in
theorem dL_678 : decode code 678 = .ok (.iload_n 3, 1) := by decide +kernel
set_option maxRecDepth 100000 in
theorem dL_679 : decode code 679 = .ok (.iconst 2, 1) := by decide +kernel
set_option maxRecDepth 100000 in
theorem dL_680 : decode code 680 = .ok (.iadd, 1) := by decide +kernel
set_option maxRecDepth 100000 in
theorem dL_681 : decode code 681 = .ok (.iaload, 1) := by decide +kernel
set_option maxRecDepth 100000 in
theorem dL_682 : decode code 682 = .ok (.aload_n 0, 1) := by decide +kernel
set_option maxRecDepth 100000 in
theorem dL_683 : decode code 683 = .ok (.iload_n 3, 1) := by decide +kernel
set_option maxRecDepth 100000 in
theorem dL_684 : decode code 684 = .ok (.iconst 3, 1) := by decide +kernel
set_option maxRecDepth 100000 in
theorem dL_685 : decode code 685 = .ok (.iadd, 1) := by decide +kernel
set_option maxRecDepth 100000 in
theorem dL_686 : decode code 686 = .ok (.iaload, 1) := by decide +kernel
set_option maxRecDepth 100000 in
theorem dL_687 : decode code 687 = .ok (.invokevirtual 89, 3) := by decide +kernel
set_option maxRecDepth 100000 in
theorem dL_690 : decode code 690 = .ok (.if_icmp .eq 295, 3) := by decide +kernel
set_option maxRecDepth 100000 in
theorem dL_693 : decode code 693 = .ok (.iconst 0, 1) := by decide +kernel
set_option maxRecDepth 100000 in
theorem dL_694 : decode code 694 = .ok (.ireturn, 1) := by decide +kernel
set_option maxRecDepth 100000 in
theorem dL_695 : decode code 695 = .ok (.aload_n 1, 1) := by decide +kernel
set_option maxRecDepth 100000 in
theorem dL_696 : decode code 696 = .ok (.aload_n 0, 1) := by decide +kernel
set_option maxRecDepth 100000 in
theorem dL_697 : decode code 697 = .ok (.iload_n 3, 1) := by decide +kernel
set_option maxRecDepth 100000 in
theorem dL_698 : decode code 698 = .ok (.iconst 1, 1) := by decide +kernel
set_option maxRecDepth 100000 in
theorem dL_699 : decode code 699 = .ok (.iadd, 1) := by decide +kernel
set_option maxRecDepth 100000 in
theorem dL_700 : decode code 700 = .ok (.iaload, 1) := by decide +kernel
set_option maxRecDepth 100000 in
theorem dL_701 : decode code 701 = .ok (.aload_n 0, 1) := by decide +kernel
set_option maxRecDepth 100000 in
theorem dL_702 : decode code 702 = .ok (.iload_n 3, 1) := by decide +kernel
set_option maxRecDepth 100000 in
theorem dL_703 : decode code 703 = .ok (.iconst 2, 1) := by decide +kernel
set_option maxRecDepth 100000 in
theorem dL_704 : decode code 704 = .ok (.iadd, 1) := by decide +kernel
set_option maxRecDepth 100000 in
theorem dL_705 : decode code 705 = .ok (.iaload, 1) := by decide +kernel
set_option maxRecDepth 100000 in
theorem dL_706 : decode code 706 = .ok (.invokevirtual 90, 3) := by decide +kernel
set_option maxRecDepth 100000 in
theorem dL_709 : decode code 709 = .ok (.aload_n 2, 1) := by decide +kernel
set_option maxRecDepth 100000 in
theorem dL_710 : decode code 710 = .ok (.aload_n 0, 1) := by decide +kernel
set_option maxRecDepth 100000 in
theorem dL_711 : decode code 711 = .ok (.iload_n 3, 1) := by decide +kernel
set_option maxRecDepth 100000 in
theorem dL_712 : decode code 712 = .ok (.iconst 1, 1) := by decide +kernel
set_option maxRecDepth 100000 in
theorem dL_713 : decode code 713 = .ok (.iadd, 1) := by decide +kernel
set_option maxRecDepth 100000 in
theorem dL_714 : decode code 714 = .ok (.iaload, 1) := by decide +kernel
set_option maxRecDepth 100000 in
theorem dL_715 : decode code 715 = .ok (.aload_n 0, 1) := by decide +kernel
set_option maxRecDepth 100000 in
theorem dL_716 : decode code 716 = .ok (.iload_n 3, 1) := by decide +kernel
set_option maxRecDepth 100000 in
theorem dL_717 : decode code 717 = .ok (.iconst 2, 1) := by decide +kernel
set_option maxRecDepth 100000 in
theorem dL_718 : decode code 718 = .ok (.iadd, 1) := by decide +kernel
set_option maxRecDepth 100000 in
theorem dL_719 : decode code 719 = .ok (.iaload, 1) := by decide +kernel
set_option maxRecDepth 100000 in
theorem dL_720 : decode code 720 = .ok (.invokevirtual 93, 3) := by decide +kernel
set_option maxRecDepth 100000 in
theorem dL_723 : decode code 723 = .ok (.if_icmp .eq 262, 3) := by decide +kernel
set_option maxRecDepth 100000 in
theorem dL_726 : decode code 726 = .ok (.iconst 0, 1) := by decide +kernel
set_option maxRecDepth 100000 in
theorem dL_727 : decode code 727 = .ok (.ireturn, 1) := by decide +kernel
set_option maxRecDepth 100000 in
theorem dL_728 : decode code 728 = .ok (.aload_n 1, 1) := by decide +kernel
set_option maxRecDepth 100000 in
theorem dL_729 : decode code 729 = .ok (.aload_n 0, 1) := by decide +kernel
set_option maxRecDepth 100000 in
theorem dL_730 : decode code 730 = .ok (.iload_n 3, 1) := by decide +kernel
set_option maxRecDepth 100000 in
theorem dL_731 : decode code 731 = .ok (.iconst 1, 1) := by decide +kernel
set_option maxRecDepth 100000 in
theorem dL_732 : decode code 732 = .ok (.iadd, 1) := by decide +kernel
set_option maxRecDepth 100000 in
theorem dL_733 : decode code 733 = .ok (.iaload, 1) := by decide +kernel
set_option maxRecDepth 100000 in
theorem dL_734 : decode code 734 = .ok (.aload_n 0, 1) := by decide +kernel
set_option maxRecDepth 100000 in
theorem dL_735 : decode code 735 = .ok (.iload_n 3, 1) := by decide +kernel
set_option maxRecDepth 100000 in
theorem dL_736 : decode code 736 = .ok (.iconst 2, 1) := by decide +kernel
set_option maxRecDepth 100000 in
theorem dL_737 : decode code 737 = .ok (.iadd, 1) := by decide +kernel
set_option maxRecDepth 100000 in
theorem dL_738 : decode code 738 = .ok (.iaload, 1) := by decide +kernel
set_option maxRecDepth 100000 in
theorem dL_739 : decode code 739 = .ok (.invokevirtual 94, 3) := by decide +kernel
set_option maxRecDepth 100000 in
theorem dL_742 : decode code 742 = .ok (.aload_n 2, 1) := by decide +kernel
set_option maxRecDepth 100000 in
theorem dL_743 : decode code 743 = .ok (.aload_n 0, 1) := by decide +kernel
set_option maxRecDepth 100000 in
theorem dL_744 : decode code 744 = .ok (.iload_n 3, 1) := by decide +kernel
set_option maxRecDepth 100000 in
theorem dL_745 : decode code 745 = .ok (.iconst 1, 1) := by decide +kernel
set_option maxRecDepth 100000 in
theorem dL_746 : decode code 746 = .ok (.iadd, 1) := by decide +kernel
set_option maxRecDepth 100000 in
theorem dL_747 : decode code 747 = .ok (.iaload, 1) := by decide +kernel
set_option maxRecDepth 100000 in
theorem dL_748 : decode code 748 = .ok (.aload_n 0, 1) := by decide +kernel
set_option maxRecDepth 100000 in
theorem dL_749 : decode code 749 = .ok (.iload_n 3, 1) := by decide +kernel
set_option maxRecDepth 100000 in
theorem dL_750 : decode code 750 = .ok (.iconst 2, 1) := by decide +kernel
set_option maxRecDepth 100000 in
theorem dL_751 : decode code 751 = .ok (.iadd, 1) := by decide +kernel
set_option maxRecDepth 100000 in
theorem dL_752 : decode code 752 = .ok (.iaload, 1) := by decide +kernel
set_option maxRecDepth 100000 in
theorem dL_753 : decode code 753 = .ok (.invokevirtual 97, 3) := by decide +kernel
set_option maxRecDepth 100000 in
theorem dL_756 : decode code 756 = .ok (.if_icmp .eq 229, 3) := by decide +kernel
set_option maxRecDepth 100000 in
theorem dL_759 : decode code 759 = .ok (.iconst 0, 1) := by decide +kernel
set_option maxRecDepth 100000 in
theorem dL_760 : decode code 760 = .ok (.ireturn, 1) := by decide +kernel
set_option maxRecDepth 100000 in
theorem dL_761 : decode code 761 = .ok (.aload_n 1, 1) := by decide +kernel
set_option maxRecDepth 100000 in
theorem dL_762 : decode code 762 = .ok (.aload_n 0, 1) := by decide +kernel
set_option maxRecDepth 100000 in
theorem dL_763 : decode code 763 = .ok (.iload_n 3, 1) := by decide +kernel
set_option maxRecDepth 100000 in
theorem dL_764 : decode code 764 = .ok (.iconst 1, 1) := by decide +kernel
set_option maxRecDepth 100000 in
theorem dL_765 : decode code 765 = .ok (.iadd, 1) := by decide +kernel
set_option maxRecDepth 100000 in
theorem dL_766 : decode code 766 = .ok (.iaload, 1) := by decide +kernel
set_option maxRecDepth 100000 in
theorem dL_767 : decode code 767 = .ok (.aload_n 0, 1) := by decide +kernel
set_option maxRecDepth 100000 in
theorem dL_768 : decode code 768 = .ok (.iload_n 3, 1) := by decide +kernel
set_option maxRecDepth 100000 in
theorem dL_769 : decode code 769 = .ok (.iconst 2, 1) := by decide +kernel
set_option maxRecDepth 100000 in
theorem dL_770 : decode code 770 = .ok (.iadd, 1) := by decide +kernel
set_option maxRecDepth 100000 in
theorem dL_771 : decode code 771 = .ok (.iaload, 1) := by decide +kernel
set_option maxRecDepth 100000 in
theorem dL_772 : decode code 772 = .ok (.invokevirtual 98, 3) := by decide +kernel
set_option maxRecDepth 100000 in
theorem dL_775 : decode code 775 = .ok (.aload_n 2, 1) := by decide +kernel
set_option maxRecDepth 100000 in
theorem dL_776 : decode code 776 = .ok (.aload_n 0, 1) := by decide +kernel
set_option maxRecDepth 100000 in
theorem dL_777 : decode code 777 = .ok (.iload_n 3, 1) := by decide +kernel
set_option maxRecDepth 100000 in
theorem dL_778 : decode code 778 = .ok (.iconst 1, 1) := by decide +kernel
set_option maxRecDepth 100000 in
theorem dL_779 : decode code 779 = .ok (.iadd, 1) := by decide +kernel
set_option maxRecDepth 100000 in
theorem dL_780 : decode code 780 = .ok (.iaload, 1) := by decide +kernel
set_option maxRecDepth 100000 in
theorem dL_781 : decode code 781 = .ok (.aload_n 0, 1) := by decide +kernel
set_option maxRecDepth 100000 in
theorem dL_782 : decode code 782 = .ok (.iload_n 3, 1) := by decide +kernel
set_option maxRecDepth 100000 in
theorem dL_783 : decode code 783 = .ok (.iconst 2, 1) := by decide +kernel
set_option maxRecDepth 100000 in
theorem dL_784 : decode code 784 = .ok (.iadd, 1) := by decide +kernel
set_option maxRecDepth 100000 in
theorem dL_785 : decode code 785 = .ok (.iaload, 1) := by decide +kernel
set_option maxRecDepth 100000 in
theorem dL_786 : decode code 786 = .ok (.invokevirtual 101, 3) := by decide +kernel
set_option maxRecDepth 100000 in
theorem dL_789 : decode code 789 = .ok (.if_icmp .eq 196, 3) := by decide +kernel
set_option maxRecDepth 100000 in
theorem dL_792 : decode code 792 = .ok (.iconst 0, 1) := by decide +kernel
set_option maxRecDepth 100000 in
theorem dL_793 : decode code 793 = .ok (.ireturn, 1) := by decide +kernel
set_option maxRecDepth 100000 in
theorem dL_794 : decode code 794 = .ok (.aload_n 1, 1) := by decide +kernel
set_option maxRecDepth 100000 in
theorem dL_795 : decode code 795 = .ok (.aload_n 0, 1) := by decide +kernel
set_option maxRecDepth 100000 in
theorem dL_796 : decode code 796 = .ok (.iload_n 3, 1) := by decide +kernel
set_option maxRecDepth 100000 in
theorem dL_797 : decode code 797 = .ok (.iconst 1, 1) := by decide +kernel
set_option maxRecDepth 100000 in
theorem dL_798 : decode code 798 = .ok (.iadd, 1) := by decide +kernel
set_option maxRecDepth 100000 in
theorem dL_799 : decode code 799 = .ok (.iaload, 1) := by decide +kernel
set_option maxRecDepth 100000 in
theorem dL_800 : decode code 800 = .ok (.aload_n 0, 1) := by decide +kernel
set_option maxRecDepth 100000 in
theorem dL_801 : decode code 801 = .ok (.iload_n 3, 1) := by decide +kernel
set_option maxRecDepth 100000 in
theorem dL_802 : decode code 802 = .ok (.iconst 2, 1) := by decide +kernel
set_option maxRecDepth 100000 in
theorem dL_803 : decode code 803 = .ok (.iadd, 1) := by decide +kernel
set_option maxRecDepth 100000 in
theorem dL_804 : decode code 804 = .ok (.iaload, 1) := by decide +kernel
set_option maxRecDepth 100000 in
theorem dL_805 : decode code 805 = .ok (.invokevirtual 102, 3) := by decide +kernel
set_option maxRecDepth 100000 in
theorem dL_808 : decode code 808 = .ok (.aload_n 2, 1) := by decide +kernel
set_option maxRecDepth 100000 in
theorem dL_809 : decode code 809 = .ok (.aload_n 0, 1) := by decide +kernel
set_option maxRecDepth 100000 in
theorem dL_810 : decode code 810 = .ok (.iload_n 3, 1) := by decide +kernel
set_option maxRecDepth 100000 in
theorem dL_811 : decode code 811 = .ok (.iconst 1, 1) := by decide +kernel
set_option maxRecDepth 100000 in
theorem dL_812 : decode code 812 = .ok (.iadd, 1) := by decide +kernel
set_option maxRecDepth 100000 in
theorem dL_813 : decode code 813 = .ok (.iaload, 1) := by decide +kernel
set_option maxRecDepth 100000 in
theorem dL_814 : decode code 814 = .ok (.aload_n 0, 1) := by decide +kernel
set_option maxRecDepth 100000 in
theorem dL_815 : decode code 815 = .ok (.iload_n 3, 1) := by decide +kernel
set_option maxRecDepth 100000 in
theorem dL_816 : decode code 816 = .ok (.iconst 2, 1) := by decide +kernel
set_option maxRecDepth 100000 in
theorem dL_817 : decode code 817 = .ok (.iadd, 1) := by decide +kernel
set_option maxRecDepth 100000 in
theorem dL_818 : decode code 818 = .ok (.iaload, 1) := by decide +kernel
set_option maxRecDepth 100000 in
theorem dL_819 : decode code 819 = .ok (.invokevirtual 105, 3) := by decide +kernel
set_option maxRecDepth 100000 in
theorem dL_822 : decode code 822 = .ok (.if_icmp .eq 163, 3) := by decide +kernel
set_option maxRecDepth 100000 in
theorem dL_825 : decode code 825 = .ok (.iconst 0, 1) := by decide +kernel
set_option maxRecDepth 100000 in
theorem dL_826 : decode code 826 = .ok (.ireturn, 1) := by decide +kernel
set_option maxRecDepth 100000 in
theorem dL_827 : decode code 827 = .ok (.aload_n 1, 1) := by decide +kernel
set_option maxRecDepth 100000 in
theorem dL_828 : decode code 828 = .ok (.aload_n 0, 1) := by decide +kernel
set_option maxRecDepth 100000 in
theorem dL_829 : decode code 829 = .ok (.iload_n 3, 1) := by decide +kernel
set_option maxRecDepth 100000 in
theorem dL_830 : decode code 830 = .ok (.iconst 1, 1) := by decide +kernel
set_option maxRecDepth 100000 in
theorem dL_831 : decode code 831 = .ok (.iadd, 1) := by decide +kernel
set_option maxRecDepth 100000 in
theorem dL_832 : decode code 832 = .ok (.iaload, 1) := by decide +kernel
set_option maxRecDepth 100000 in
theorem dL_833 : decode code 833 = .ok (.aload_n 0, 1) := by decide +kernel
set_option maxRecDepth 100000 in
theorem dL_834 : decode code 834 = .ok (.iload_n 3, 1) := by decide +kernel
set_option maxRecDepth 100000 in
theorem dL_835 : decode code 835 = .ok (.iconst 2, 1) := by decide +kernel
set_option maxRecDepth 100000 in
theorem dL_836 : decode code 836 = .ok (.iadd, 1) := by decide +kernel
set_option maxRecDepth 100000 in
theorem dL_837 : decode code 837 = .ok (.iaload, 1) := by decide +kernel
set_option maxRecDepth 100000 in
theorem dL_838 : decode code 838 = .ok (.i2l, 1) := by decide +kernel
set_option maxRecDepth 100000 in
theorem dL_839 : decode code 839 = .ok (.bipush 32, 2) := by decide +kernel
set_option maxRecDepth 100000 in
theorem dL_841 : decode code 841 = .ok (.lshl, 1) := by decide +kernel
set_option maxRecDepth 100000 in
theorem dL_842 : decode code 842 = .ok (.aload_n 0, 1) := by decide +kernel
set_option maxRecDepth 100000 in
theorem dL_843 : decode code 843 = .ok (.iload_n 3, 1) := by decide +kernel
set_option maxRecDepth 100000 in
theorem dL_844 : decode code 844 = .ok (.iconst 3, 1) := by decide +kernel
set_option maxRecDepth 100000 in
theorem dL_845 : decode code 845 = .ok (.iadd, 1) := by decide +kernel
set_option maxRecDepth 100000 in
theorem dL_846 : decode code 846 = .ok (.iaload, 1) := by decide +kernel
set_option maxRecDepth 100000 in
theorem dL_847 : decode code 847 = .ok (.i2l, 1) := by decide +kernel
set_option maxRecDepth 100000 in
theorem dL_848 : decode code 848 = .ok (.ldc2_w 106, 3) := by decide +kernel
set_option maxRecDepth 100000 in
theorem dL_851 : decode code 851 = .ok (.land, 1) := by decide +kernel
set_option maxRecDepth 100000 in
theorem dL_852 : decode code 852 = .ok (.lor, 1) := by decide +kernel
set_option maxRecDepth 100000 in
theorem dL_853 : decode code 853 = .ok (.invokevirtual 108, 3) := by decide +kernel
set_option maxRecDepth 100000 in
theorem dL_856 : decode code 856 = .ok (.aload_n 2, 1) := by decide +kernel
set_option maxRecDepth 100000 in
theorem dL_857 : decode code 857 = .ok (.aload_n 0, 1) := by decide +kernel
set_option maxRecDepth 100000 in
theorem dL_858 : decode code 858 = .ok (.iload_n 3, 1) := by decide +kernel
set_option maxRecDepth 100000 in
theorem dL_859 : decode code 859 = .ok (.iconst 1, 1) := by decide +kernel
set_option maxRecDepth 100000 in
theorem dL_860 : decode code 860 = .ok (.iadd, 1) := by decide +kernel
set_option maxRecDepth 100000 in
theorem dL_861 : decode code 861 = .ok (.iaload, 1) := by decide +kernel
set_option maxRecDepth 100000 in
theorem dL_862 : decode code 862 = .ok (.aload_n 0, 1) := by decide +kernel
set_option maxRecDepth 100000 in
theorem dL_863 : decode code 863 = .ok (.iload_n 3, 1) := by decide +kernel
set_option maxRecDepth 100000 in
theorem dL_864 : decode code 864 = .ok (.iconst 2, 1) := by decide +kernel
set_option maxRecDepth 100000 in
theorem dL_865 : decode code 865 = .ok (.iadd, 1) := by decide +kernel
set_option maxRecDepth 100000 in
theorem dL_866 : decode code 866 = .ok (.iaload, 1) := by decide +kernel
set_option maxRecDepth 100000 in
theorem dL_867 : decode code 867 = .ok (.i2l, 1) := by decide +kernel
set_option maxRecDepth 100000 in
theorem dL_868 : decode code 868 = .ok (.bipush 32, 2) := by decide +kernel
set_option maxRecDepth 100000 in
theorem dL_870 : decode code 870 = .ok (.lshl, 1) := by decide +kernel
set_option maxRecDepth 100000 in
theorem dL_871 : decode code 871 = .ok (.aload_n 0, 1) := by decide +kernel
set_option maxRecDepth 100000 in
theorem dL_872 : decode code 872 = .ok (.iload_n 3, 1) := by decide +kernel
set_option maxRecDepth 100000 in
theorem dL_873 : decode code 873 = .ok (.iconst 3, 1) := by decide +kernel
set_option maxRecDepth 100000 in
theorem dL_874 : decode code 874 = .ok (.iadd, 1) := by decide +kernel
set_option maxRecDepth 100000 in
theorem dL_875 : decode code 875 = .ok (.iaload, 1) := by decide +kernel
set_option maxRecDepth 100000 in
theorem dL_876 : decode code 876 = .ok (.i2l, 1) := by decide +kernel
set_option maxRecDepth 100000 in
theorem dL_877 : decode code 877 = .ok (.ldc2_w 106, 3) := by decide +kernel
set_option maxRecDepth 100000 in
theorem dL_880 : decode code 880 = .ok (.land, 1) := by decide +kernel
set_option maxRecDepth 100000 in
theorem dL_881 : decode code 881 = .ok (.lor, 1) := by decide +kernel
set_option maxRecDepth 100000 in
theorem dL_882 : decode code 882 = .ok (.invokevirtual 112, 3) := by decide +kernel
set_option maxRecDepth 100000 in
theorem dL_885 : decode code 885 = .ok (.if_icmp .eq 100, 3) := by decide +kernel
set_option maxRecDepth 100000 in
theorem dL_888 : decode code 888 = .ok (.iconst 0, 1) := by decide +kernel
set_option maxRecDepth 100000 in
theorem dL_889 : decode code 889 = .ok (.ireturn, 1) := by decide +kernel
set_option maxRecDepth 100000 in
theorem dL_890 : decode code 890 = .ok (.aload_n 1, 1) := by decide +kernel
set_option maxRecDepth 100000 in
theorem dL_891 : decode code 891 = .ok (.invokevirtual 113, 3) := by decide +kernel
set_option maxRecDepth 100000 in
theorem dL_894 : decode code 894 = .ok (.aload_n 2, 1) := by decide +kernel
set_option maxRecDepth 100000 in
theorem dL_895 : decode code 895 = .ok (.invokevirtual 116, 3) := by decide +kernel
set_option maxRecDepth 100000 in
theorem dL_898 : decode code 898 = .ok (.if_icmp .eq 87, 3) := by decide +kernel
set_option maxRecDepth 100000 in
theorem dL_901 : decode code 901 = .ok (.iconst 0, 1) := by decide +kernel
set_option maxRecDepth 100000 in
theorem dL_902 : decode code 902 = .ok (.ireturn, 1) := by decide +kernel
set_option maxRecDepth 100000 in
theorem dL_903 : decode code 903 = .ok (.aload_n 1, 1) := by decide +kernel
set_option maxRecDepth 100000 in
theorem dL_904 : decode code 904 = .ok (.invokevirtual 117, 3) := by decide +kernel
set_option maxRecDepth 100000 in
theorem dL_907 : decode code 907 = .ok (.aload_n 2, 1) := by decide +kernel
set_option maxRecDepth 100000 in
theorem dL_908 : decode code 908 = .ok (.invokevirtual 120, 3) := by decide +kernel
set_option maxRecDepth 100000 in
theorem dL_911 : decode code 911 = .ok (.if_icmp .eq 74, 3) := by decide +kernel
set_option maxRecDepth 100000 in
theorem dL_914 : decode code 914 = .ok (.iconst 0, 1) := by decide +kernel
set_option maxRecDepth 100000 in
theorem dL_915 : decode code 915 = .ok (.ireturn, 1) := by decide +kernel
set_option maxRecDepth 100000 in
theorem dL_916 : decode code 916 = .ok (.aload_n 1, 1) := by decide +kernel
set_option maxRecDepth 100000 in
theorem dL_917 : decode code 917 = .ok (.aload_n 0, 1) := by decide +kernel
set_option maxRecDepth 100000 in
theorem dL_918 : decode code 918 = .ok (.iload_n 3, 1) := by decide +kernel
set_option maxRecDepth 100000 in
theorem dL_919 : decode code 919 = .ok (.iconst 1, 1) := by decide +kernel
set_option maxRecDepth 100000 in
theorem dL_920 : decode code 920 = .ok (.iadd, 1) := by decide +kernel
set_option maxRecDepth 100000 in
theorem dL_921 : decode code 921 = .ok (.iaload, 1) := by decide +kernel
set_option maxRecDepth 100000 in
theorem dL_922 : decode code 922 = .ok (.invokevirtual 121, 3) := by decide +kernel
set_option maxRecDepth 100000 in
theorem dL_925 : decode code 925 = .ok (.aload_n 2, 1) := by decide +kernel
set_option maxRecDepth 100000 in
theorem dL_926 : decode code 926 = .ok (.aload_n 0, 1) := by decide +kernel
set_option maxRecDepth 100000 in
theorem dL_927 : decode code 927 = .ok (.iload_n 3, 1) := by decide +kernel
set_option maxRecDepth 100000 in
theorem dL_928 : decode code 928 = .ok (.iconst 1, 1) := by decide +kernel
set_option maxRecDepth 100000 in
theorem dL_929 : decode code 929 = .ok (.iadd, 1) := by decide +kernel
set_option maxRecDepth 100000 in
theorem dL_930 : decode code 930 = .ok (.iaload, 1) := by decide +kernel
set_option maxRecDepth 100000 in
theorem dL_931 : decode code 931 = .ok (.invokevirtual 124, 3) := by decide +kernel
set_option maxRecDepth 100000 in
theorem dL_934 : decode code 934 = .ok (.if_icmp .eq 51, 3) := by decide +kernel
set_option maxRecDepth 100000 in
theorem dL_937 : decode code 937 = .ok (.iconst 0, 1) := by decide +kernel
set_option maxRecDepth 100000 in
theorem dL_938 : decode code 938 = .ok (.ireturn, 1) := by decide +kernel
set_option maxRecDepth 100000 in
theorem dL_939 : decode code 939 = .ok (.aload_n 1, 1) := by decide +kernel
set_option maxRecDepth 100000 in
theorem dL_940 : decode code 940 = .ok (.aload_n 0, 1) := by decide +kernel
set_option maxRecDepth 100000 in
theorem dL_941 : decode code 941 = .ok (.iload_n 3, 1) := by decide +kernel
set_option maxRecDepth 100000 in
theorem dL_942 : decode code 942 = .ok (.iconst 1, 1) := by decide +kernel
set_option maxRecDepth 100000 in
theorem dL_943 : decode code 943 = .ok (.iadd, 1) := by decide +kernel
set_option maxRecDepth 100000 in
theorem dL_944 : decode code 944 = .ok (.iaload, 1) := by decide +kernel
set_option maxRecDepth 100000 in
theorem dL_945 : decode code 945 = .ok (.invokevirtual 125, 3) := by decide +kernel
set_option maxRecDepth 100000 in
theorem dL_948 : decode code 948 = .ok (.aload_n 2, 1) := by decide +kernel
set_option maxRecDepth 100000 in
theorem dL_949 : decode code 949 = .ok (.aload_n 0, 1) := by decide +kernel
set_option maxRecDepth 100000 in
theorem dL_950 : decode code 950 = .ok (.iload_n 3, 1) := by decide +kernel
set_option maxRecDepth 100000 in
theorem dL_951 : decode code 951 = .ok (.iconst 1, 1) := by decide +kernel
set_option maxRecDepth 100000 in
theorem dL_952 : decode code 952 = .ok (.iadd, 1) := by decide +kernel
set_option maxRecDepth 100000 in
theorem dL_953 : decode code 953 = .ok (.iaload, 1) := by decide +kernel
set_option maxRecDepth 100000 in
theorem dL_954 : decode code 954 = .ok (.invokevirtual 128, 3) := by decide +kernel
set_option maxRecDepth 100000 in
theorem dL_957 : decode code 957 = .ok (.if_icmp .eq 28, 3) := by decide +kernel
set_option maxRecDepth 100000 in
theorem dL_960 : decode code 960 = .ok (.iconst 0, 1) := by decide +kernel
set_option maxRecDepth 100000 in
theorem dL_961 : decode code 961 = .ok (.ireturn, 1) := by decide +kernel
set_option maxRecDepth 100000 in
theorem dL_962 : decode code 962 = .ok (.aload_n 1, 1) := by decide +kernel
set_option maxRecDepth 100000 in
theorem dL_963 : decode code 963 = .ok (.aload_n 0, 1) := by decide +kernel
set_option maxRecDepth 100000 in
theorem dL_964 : decode code 964 = .ok (.iload_n 3, 1) := by decide +kernel
set_option maxRecDepth 100000 in
theorem dL_965 : decode code 965 = .ok (.iconst 1, 1) := by decide +kernel
set_option maxRecDepth 100000 in
theorem dL_966 : decode code 966 = .ok (.iadd, 1) := by decide +kernel
set_option maxRecDepth 100000 in
theorem dL_967 : decode code 967 = .ok (.iaload, 1) := by decide +kernel
set_option maxRecDepth 100000 in
theorem dL_968 : decode code 968 = .ok (.invokevirtual 129, 3) := by decide +kernel
set_option maxRecDepth 100000 in
theorem dL_971 : decode code 971 = .ok (.aload_n 2, 1) := by decide +kernel
set_option maxRecDepth 100000 in
theorem dL_972 : decode code 972 = .ok (.aload_n 0, 1) := by decide +kernel
set_option maxRecDepth 100000 in
theorem dL_973 : decode code 973 = .ok (.iload_n 3, 1) := by decide +kernel
set_option maxRecDepth 100000 in
theorem dL_974 : decode code 974 = .ok (.iconst 1, 1) := by decide +kernel
set_option maxRecDepth 100000 in
theorem dL_975 : decode code 975 = .ok (.iadd, 1) := by decide +kernel
set_option maxRecDepth 100000 in
theorem dL_976 : decode code 976 = .ok (.iaload, 1) := by decide +kernel
set_option maxRecDepth 100000 in
theorem dL_977 : decode code 977 = .ok (.invokevirtual 132, 3) := by decide +kernel
set_option maxRecDepth 100000 in
theorem dL_980 : decode code 980 = .ok (.if_icmp .eq 5, 3) := by decide +kernel
set_option maxRecDepth 100000 in
theorem dL_983 : decode code 983 = .ok (.iconst 0, 1) := by decide +kernel
set_option maxRecDepth 100000 in
theorem dL_984 : decode code 984 = .ok (.ireturn, 1) := by decide +kernel
set_option maxRecDepth 100000 in
theorem dL_985 : decode code 985 = .ok (.iinc 3 4, 3) := by decide +kernel
set_option maxRecDepth 100000 in
theorem dL_988 : decode code 988 = .ok (.goto (-970), 3) := by decide +kernel
set_option maxRecDepth 100000 in
theorem dL_991 : decode code 991 = .ok (.iconst 1, 1) := by decide +kernel
set_option maxRecDepth 100000 in
theorem dL_992 : decode code 992 = .ok (.ireturn, 1) := by decide +kernel
