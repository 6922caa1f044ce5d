theorem dL_acts_634 : decode cL_acts 634 = .ok (.ifCond .ne 13, 3) := by decide +kernel
theorem dL_acts_637 : decode cL_acts 637 = .ok (.aload_n 0, 1) := by decide +kernel
theorem dL_acts_638 : decode cL_acts 638 = .ok (.invokevirtual 91, 3) := by decide +kernel
theorem dL_acts_641 : decode cL_acts 641 = .ok (.aload_n 3, 1) := by decide +kernel
theorem dL_acts_642 : decode cL_acts 642 = .ok (.iconst 1, 1) := by decide +kernel
theorem dL_acts_643 : decode cL_acts 643 = .ok (.iconst 0, 1) := by decide +kernel
theorem dL_acts_644 : decode cL_acts 644 = .ok (.iastore, 1) := by decide +kernel
theorem dL_acts_645 : decode cL_acts 645 = .ok (.iconst 1, 1) := by decide +kernel
theorem dL_acts_646 : decode cL_acts 646 = .ok (.ireturn, 1) := by decide +kernel
theorem dL_acts_647 : decode cL_acts 647 = .ok (.iload_n 2, 1) := by decide +kernel
theorem dL_acts_648 : decode cL_acts 648 = .ok (.iconst 3, 1) := by decide +kernel
theorem dL_acts_649 : decode cL_acts 649 = .ok (.ishr, 1) := by decide +kernel
theorem dL_acts_650 : decode cL_acts 650 = .ok (.bipush 40, 2) := by decide +kernel
theorem dL_acts_652 : decode cL_acts 652 = .ok (.invokestatic 76, 3) := by decide +kernel
theorem dL_acts_655 : decode cL_acts 655 = .ok (.ifCond .ne 7, 3) := by decide +kernel
theorem dL_acts_658 : decode cL_acts 658 = .ok (.iconst 5, 1) := by decide +kernel
theorem dL_acts_659 : decode cL_acts 659 = .ok (.goto 10, 3) := by decide +kernel
theorem dL_acts_662 : decode cL_acts 662 = .ok (.iload_n 2, 1) := by decide +kernel
theorem dL_acts_663 : decode cL_acts 663 = .ok (.iconst 3, 1) := by decide +kernel
theorem dL_acts_664 : decode cL_acts 664 = .ok (.ishr, 1) := by decide +kernel
theorem dL_acts_665 : decode cL_acts 665 = .ok (.iconst 4, 1) := by decide +kernel
theorem dL_acts_666 : decode cL_acts 666 = .ok (.invokestatic 76, 3) := by decide +kernel
theorem dL_acts_669 : decode cL_acts 669 = .ok (.istore 8, 2) := by decide +kernel
theorem dL_acts_671 : decode cL_acts 671 = .ok (.iload_n 2, 1) := by decide +kernel
theorem dL_acts_672 : decode cL_acts 672 = .ok (.bipush 6, 2) := by decide +kernel
theorem dL_acts_674 : decode cL_acts 674 = .ok (.ishr, 1) := by decide +kernel
theorem dL_acts_675 : decode cL_acts 675 = .ok (.bipush 40, 2) := by decide +kernel
theorem dL_acts_677 : decode cL_acts 677 = .ok (.invokestatic 76, 3) := by decide +kernel
theorem dL_acts_680 : decode cL_acts 680 = .ok (.ifCond .ne 7, 3) := by decide +kernel
theorem dL_acts_683 : decode cL_acts 683 = .ok (.iconst (-1), 1) := by decide +kernel
theorem dL_acts_684 : decode cL_acts 684 = .ok (.goto 11, 3) := by decide +kernel
theorem dL_acts_687 : decode cL_acts 687 = .ok (.iload_n 2, 1) := by decide +kernel
theorem dL_acts_688 : decode cL_acts 688 = .ok (.bipush 6, 2) := by decide +kernel
theorem dL_acts_690 : decode cL_acts 690 = .ok (.ishr, 1) := by decide +kernel
theorem dL_acts_691 : decode cL_acts 691 = .ok (.iconst 3, 1) := by decide +kernel
theorem dL_acts_692 : decode cL_acts 692 = .ok (.invokestatic 76, 3) := by decide +kernel
theorem dL_acts_695 : decode cL_acts 695 = .ok (.istore 9, 2) := by decide +kernel
theorem dL_acts_697 : decode cL_acts 697 = .ok (.iload_n 2, 1) := by decide +kernel
theorem dL_acts_698 : decode cL_acts 698 = .ok (.bipush 9, 2) := by decide +kernel
theorem dL_acts_700 : decode cL_acts 700 = .ok (.ishr, 1) := by decide +kernel
theorem dL_acts_701 : decode cL_acts 701 = .ok (.iconst 4, 1) := by decide +kernel
theorem dL_acts_702 : decode cL_acts 702 = .ok (.invokestatic 76, 3) := by decide +kernel
theorem dL_acts_705 : decode cL_acts 705 = .ok (.istore 10, 2) := by decide +kernel
theorem dL_acts_707 : decode cL_acts 707 = .ok (.iload 8, 2) := by decide +kernel
theorem dL_acts_709 : decode cL_acts 709 = .ok (.iconst 5, 1) := by decide +kernel
theorem dL_acts_710 : decode cL_acts 710 = .ok (.if_icmp .ge 12, 3) := by decide +kernel
theorem dL_acts_713 : decode cL_acts 713 = .ok (.iload 9, 2) := by decide +kernel
theorem dL_acts_715 : decode cL_acts 715 = .ok (.ifCond .lt 7, 3) := by decide +kernel
theorem dL_acts_718 : decode cL_acts 718 = .ok (.iconst 1, 1) := by decide +kernel
theorem dL_acts_719 : decode cL_acts 719 = .ok (.goto 4, 3) := by decide +kernel
theorem dL_acts_722 : decode cL_acts 722 = .ok (.iconst 0, 1) := by decide +kernel
theorem dL_acts_723 : decode cL_acts 723 = .ok (.istore 11, 2) := by decide +kernel
theorem dL_acts_725 : decode cL_acts 725 = .ok (.iload 7, 2) := by decide +kernel
theorem dL_acts_727 : decode cL_acts 727 = .ok (.ifCond .ne 8, 3) := by decide +kernel
theorem dL_acts_730 : decode cL_acts 730 = .ok (.bipush (-101), 2) := by decide +kernel
theorem dL_acts_732 : decode cL_acts 732 = .ok (.goto 16, 3) := by decide +kernel
theorem dL_acts_735 : decode cL_acts 735 = .ok (.iload 11, 2) := by decide +kernel
theorem dL_acts_737 : decode cL_acts 737 = .ok (.ifCond .eq 9, 3) := by decide +kernel
theorem dL_acts_740 : decode cL_acts 740 = .ok (.aload_n 3, 1) := by decide +kernel
theorem dL_acts_741 : decode cL_acts 741 = .ok (.iconst 1, 1) := by decide +kernel
theorem dL_acts_742 : decode cL_acts 742 = .ok (.iaload, 1) := by decide +kernel
theorem dL_acts_743 : decode cL_acts 743 = .ok (.goto 5, 3) := by decide +kernel
theorem dL_acts_746 : decode cL_acts 746 = .ok (.bipush (-102), 2) := by decide +kernel
theorem dL_acts_748 : decode cL_acts 748 = .ok (.istore 12, 2) := by decide +kernel
theorem dL_acts_750 : decode cL_acts 750 = .ok (.iload 12, 2) := by decide +kernel
theorem dL_acts_752 : decode cL_acts 752 = .ok (.bipush 14, 2) := by decide +kernel
theorem dL_acts_754 : decode cL_acts 754 = .ok (.if_icmp .ne 5, 3) := by decide +kernel
theorem dL_acts_757 : decode cL_acts 757 = .ok (.iconst 1, 1) := by decide +kernel
theorem dL_acts_758 : decode cL_acts 758 = .ok (.ireturn, 1) := by decide +kernel
theorem dL_acts_759 : decode cL_acts 759 = .ok (.iload 12, 2) := by decide +kernel
theorem dL_acts_761 : decode cL_acts 761 = .ok (.ifCond .lt 52, 3) := by decide +kernel
theorem dL_acts_764 : decode cL_acts 764 = .ok (.aload 5, 2) := by decide +kernel
theorem dL_acts_766 : decode cL_acts 766 = .ok (.iconst 4, 1) := by decide +kernel
theorem dL_acts_767 : decode cL_acts 767 = .ok (.iload 12, 2) := by decide +kernel
theorem dL_acts_769 : decode cL_acts 769 = .ok (.imul, 1) := by decide +kernel
theorem dL_acts_770 : decode cL_acts 770 = .ok (.iload 6, 2) := by decide +kernel
theorem dL_acts_772 : decode cL_acts 772 = .ok (.iastore, 1) := by decide +kernel
theorem dL_acts_773 : decode cL_acts 773 = .ok (.aload 5, 2) := by decide +kernel
theorem dL_acts_775 : decode cL_acts 775 = .ok (.iconst 4, 1) := by decide +kernel
theorem dL_acts_776 : decode cL_acts 776 = .ok (.iload 12, 2) := by decide +kernel
theorem dL_acts_778 : decode cL_acts 778 = .ok (.imul, 1) := by decide +kernel
theorem dL_acts_779 : decode cL_acts 779 = .ok (.iconst 1, 1) := by decide +kernel
theorem dL_acts_780 : decode cL_acts 780 = .ok (.iadd, 1) := by decide +kernel
theorem dL_acts_781 : decode cL_acts 781 = .ok (.iload 8, 2) := by decide +kernel
theorem dL_acts_783 : decode cL_acts 783 = .ok (.iastore, 1) := by decide +kernel
theorem dL_acts_784 : decode cL_acts 784 = .ok (.aload 5, 2) := by decide +kernel
theorem dL_acts_786 : decode cL_acts 786 = .ok (.iconst 4, 1) := by decide +kernel
theorem dL_acts_787 : decode cL_acts 787 = .ok (.iload 12, 2) := by decide +kernel
theorem dL_acts_789 : decode cL_acts 789 = .ok (.imul, 1) := by decide +kernel
theorem dL_acts_790 : decode cL_acts 790 = .ok (.iconst 2, 1) := by decide +kernel
theorem dL_acts_791 : decode cL_acts 791 = .ok (.iadd, 1) := by decide +kernel
theorem dL_acts_792 : decode cL_acts 792 = .ok (.iload 9, 2) := by decide +kernel
theorem dL_acts_794 : decode cL_acts 794 = .ok (.iastore, 1) := by decide +kernel
theorem dL_acts_795 : decode cL_acts 795 = .ok (.aload 5, 2) := by decide +kernel
theorem dL_acts_797 : decode cL_acts 797 = .ok (.iconst 4, 1) := by decide +kernel
theorem dL_acts_798 : decode cL_acts 798 = .ok (.iload 12, 2) := by decide +kernel
theorem dL_acts_800 : decode cL_acts 800 = .ok (.imul, 1) := by decide +kernel
theorem dL_acts_801 : decode cL_acts 801 = .ok (.iconst 3, 1) := by decide +kernel
theorem dL_acts_802 : decode cL_acts 802 = .ok (.iadd, 1) := by decide +kernel
theorem dL_acts_803 : decode cL_acts 803 = .ok (.iload 10, 2) := by decide +kernel
theorem dL_acts_805 : decode cL_acts 805 = .ok (.iastore, 1) := by decide +kernel
theorem dL_acts_806 : decode cL_acts 806 = .ok (.aload_n 3, 1) := by decide +kernel
theorem dL_acts_807 : decode cL_acts 807 = .ok (.iconst 1, 1) := by decide +kernel
theorem dL_acts_808 : decode cL_acts 808 = .ok (.dup2, 1) := by decide +kernel
theorem dL_acts_809 : decode cL_acts 809 = .ok (.iaload, 1) := by decide +kernel
theorem dL_acts_810 : decode cL_acts 810 = .ok (.iconst 1, 1) := by decide +kernel
theorem dL_acts_811 : decode cL_acts 811 = .ok (.iadd, 1) := by decide +kernel
theorem dL_acts_812 : decode cL_acts 812 = .ok (.iastore, 1) := by decide +kernel
theorem dL_acts_813 : decode cL_acts 813 = .ok (.aload_n 0, 1) := by decide +kernel
theorem dL_acts_814 : decode cL_acts 814 = .ok (.iload 6, 2) := by decide +kernel
theorem dL_acts_816 : decode cL_acts 816 = .ok (.iload 8, 2) := by decide +kernel
theorem dL_acts_818 : decode cL_acts 818 = .ok (.iload 9, 2) := by decide +kernel
theorem dL_acts_820 : decode cL_acts 820 = .ok (.iload 10, 2) := by decide +kernel
theorem dL_acts_822 : decode cL_acts 822 = .ok (.invokestatic 94, 3) := by decide +kernel
theorem dL_acts_825 : decode cL_acts 825 = .ok (.iload 12, 2) := by decide +kernel
theorem dL_acts_827 : decode cL_acts 827 = .ok (.if_icmp .ne 7, 3) := by decide +kernel
theorem dL_acts_830 : decode cL_acts 830 = .ok (.iconst 1, 1) := by decide +kernel
theorem dL_acts_831 : decode cL_acts 831 = .ok (.goto 4, 3) := by decide +kernel
theorem dL_acts_834 : decode cL_acts 834 = .ok (.iconst 0, 1) := by decide +kernel
theorem dL_acts_835 : decode cL_acts 835 = .ok (.ireturn, 1) := by decide +kernel
