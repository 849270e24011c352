theorem dL_law_656 : decode code 656 = .ok (.iaload, 1) := by decide +kernel
theorem dL_law_657 : decode code 657 = .ok (.invokevirtual 93, 3) := by decide +kernel
theorem dL_law_660 : decode code 660 = .ok (.if_icmp .eq 165, 3) := by decide +kernel
theorem dL_law_663 : decode code 663 = .ok (.iconst 0, 1) := by decide +kernel
theorem dL_law_664 : decode code 664 = .ok (.ireturn, 1) := by decide +kernel
theorem dL_law_665 : decode code 665 = .ok (.aload_n 1, 1) := by decide +kernel
theorem dL_law_666 : decode code 666 = .ok (.aload_n 0, 1) := by decide +kernel
theorem dL_law_667 : decode code 667 = .ok (.iload_n 3, 1) := by decide +kernel
theorem dL_law_668 : decode code 668 = .ok (.iconst 1, 1) := by decide +kernel
theorem dL_law_669 : decode code 669 = .ok (.iadd, 1) := by decide +kernel
theorem dL_law_670 : decode code 670 = .ok (.iaload, 1) := by decide +kernel
theorem dL_law_671 : decode code 671 = .ok (.invokevirtual 94, 3) := by decide +kernel
theorem dL_law_674 : decode code 674 = .ok (.aload_n 2, 1) := by decide +kernel
theorem dL_law_675 : decode code 675 = .ok (.aload_n 0, 1) := by decide +kernel
theorem dL_law_676 : decode code 676 = .ok (.iload_n 3, 1) := by decide +kernel
theorem dL_law_677 : decode code 677 = .ok (.iconst 1, 1) := by decide +kernel
theorem dL_law_678 : decode code 678 = .ok (.iadd, 1) := by decide +kernel
theorem dL_law_679 : decode code 679 = .ok (.iaload, 1) := by decide +kernel
theorem dL_law_680 : decode code 680 = .ok (.invokevirtual 97, 3) := by decide +kernel
theorem dL_law_683 : decode code 683 = .ok (.if_icmp .eq 142, 3) := by decide +kernel
theorem dL_law_686 : decode code 686 = .ok (.iconst 0, 1) := by decide +kernel
theorem dL_law_687 : decode code 687 = .ok (.ireturn, 1) := by decide +kernel
theorem dL_law_688 : decode code 688 = .ok (.aload_n 1, 1) := by decide +kernel
theorem dL_law_689 : decode code 689 = .ok (.invokevirtual 98, 3) := by decide +kernel
theorem dL_law_692 : decode code 692 = .ok (.aload_n 2, 1) := by decide +kernel
theorem dL_law_693 : decode code 693 = .ok (.invokevirtual 101, 3) := by decide +kernel
theorem dL_law_696 : decode code 696 = .ok (.if_icmp .eq 129, 3) := by decide +kernel
theorem dL_law_699 : decode code 699 = .ok (.iconst 0, 1) := by decide +kernel
theorem dL_law_700 : decode code 700 = .ok (.ireturn, 1) := by decide +kernel
theorem dL_law_701 : decode code 701 = .ok (.aload_n 1, 1) := by decide +kernel
theorem dL_law_702 : decode code 702 = .ok (.aload_n 0, 1) := by decide +kernel
theorem dL_law_703 : decode code 703 = .ok (.iload_n 3, 1) := by decide +kernel
theorem dL_law_704 : decode code 704 = .ok (.iconst 1, 1) := by decide +kernel
theorem dL_law_705 : decode code 705 = .ok (.iadd, 1) := by decide +kernel
theorem dL_law_706 : decode code 706 = .ok (.iaload, 1) := by decide +kernel
theorem dL_law_707 : decode code 707 = .ok (.aload_n 0, 1) := by decide +kernel
theorem dL_law_708 : decode code 708 = .ok (.iload_n 3, 1) := by decide +kernel
theorem dL_law_709 : decode code 709 = .ok (.iconst 2, 1) := by decide +kernel
theorem dL_law_710 : decode code 710 = .ok (.iadd, 1) := by decide +kernel
theorem dL_law_711 : decode code 711 = .ok (.iaload, 1) := by decide +kernel
theorem dL_law_712 : decode code 712 = .ok (.invokevirtual 102, 3) := by decide +kernel
theorem dL_law_715 : decode code 715 = .ok (.aload_n 2, 1) := by decide +kernel
theorem dL_law_716 : decode code 716 = .ok (.aload_n 0, 1) := by decide +kernel
theorem dL_law_717 : decode code 717 = .ok (.iload_n 3, 1) := by decide +kernel
theorem dL_law_718 : decode code 718 = .ok (.iconst 1, 1) := by decide +kernel
theorem dL_law_719 : decode code 719 = .ok (.iadd, 1) := by decide +kernel
theorem dL_law_720 : decode code 720 = .ok (.iaload, 1) := by decide +kernel
theorem dL_law_721 : decode code 721 = .ok (.aload_n 0, 1) := by decide +kernel
theorem dL_law_722 : decode code 722 = .ok (.iload_n 3, 1) := by decide +kernel
theorem dL_law_723 : decode code 723 = .ok (.iconst 2, 1) := by decide +kernel
theorem dL_law_724 : decode code 724 = .ok (.iadd, 1) := by decide +kernel
theorem dL_law_725 : decode code 725 = .ok (.iaload, 1) := by decide +kernel
theorem dL_law_726 : decode code 726 = .ok (.invokevirtual 105, 3) := by decide +kernel
theorem dL_law_729 : decode code 729 = .ok (.if_icmp .eq 96, 3) := by decide +kernel
theorem dL_law_732 : decode code 732 = .ok (.iconst 0, 1) := by decide +kernel
theorem dL_law_733 : decode code 733 = .ok (.ireturn, 1) := by decide +kernel
theorem dL_law_734 : decode code 734 = .ok (.aload_n 1, 1) := by decide +kernel
theorem dL_law_735 : decode code 735 = .ok (.aload_n 0, 1) := by decide +kernel
theorem dL_law_736 : decode code 736 = .ok (.iload_n 3, 1) := by decide +kernel
theorem dL_law_737 : decode code 737 = .ok (.iconst 1, 1) := by decide +kernel
theorem dL_law_738 : decode code 738 = .ok (.iadd, 1) := by decide +kernel
theorem dL_law_739 : decode code 739 = .ok (.iaload, 1) := by decide +kernel
theorem dL_law_740 : decode code 740 = .ok (.aload_n 0, 1) := by decide +kernel
theorem dL_law_741 : decode code 741 = .ok (.iload_n 3, 1) := by decide +kernel
theorem dL_law_742 : decode code 742 = .ok (.iconst 2, 1) := by decide +kernel
theorem dL_law_743 : decode code 743 = .ok (.iadd, 1) := by decide +kernel
theorem dL_law_744 : decode code 744 = .ok (.iaload, 1) := by decide +kernel
theorem dL_law_745 : decode code 745 = .ok (.invokevirtual 106, 3) := by decide +kernel
theorem dL_law_748 : decode code 748 = .ok (.aload_n 2, 1) := by decide +kernel
theorem dL_law_749 : decode code 749 = .ok (.aload_n 0, 1) := by decide +kernel
theorem dL_law_750 : decode code 750 = .ok (.iload_n 3, 1) := by decide +kernel
theorem dL_law_751 : decode code 751 = .ok (.iconst 1, 1) := by decide +kernel
theorem dL_law_752 : decode code 752 = .ok (.iadd, 1) := by decide +kernel
theorem dL_law_753 : decode code 753 = .ok (.iaload, 1) := by decide +kernel
theorem dL_law_754 : decode code 754 = .ok (.aload_n 0, 1) := by decide +kernel
theorem dL_law_755 : decode code 755 = .ok (.iload_n 3, 1) := by decide +kernel
theorem dL_law_756 : decode code 756 = .ok (.iconst 2, 1) := by decide +kernel
theorem dL_law_757 : decode code 757 = .ok (.iadd, 1) := by decide +kernel
theorem dL_law_758 : decode code 758 = .ok (.iaload, 1) := by decide +kernel
theorem dL_law_759 : decode code 759 = .ok (.invokevirtual 110, 3) := by decide +kernel
theorem dL_law_762 : decode code 762 = .ok (.lcmp, 1) := by decide +kernel
theorem dL_law_763 : decode code 763 = .ok (.ifCond .eq 62, 3) := by decide +kernel
theorem dL_law_766 : decode code 766 = .ok (.iconst 0, 1) := by decide +kernel
theorem dL_law_767 : decode code 767 = .ok (.ireturn, 1) := by decide +kernel
theorem dL_law_768 : decode code 768 = .ok (.aload_n 1, 1) := by decide +kernel
theorem dL_law_769 : decode code 769 = .ok (.aload_n 0, 1) := by decide +kernel
theorem dL_law_770 : decode code 770 = .ok (.iload_n 3, 1) := by decide +kernel
theorem dL_law_771 : decode code 771 = .ok (.iconst 1, 1) := by decide +kernel
theorem dL_law_772 : decode code 772 = .ok (.iadd, 1) := by decide +kernel
theorem dL_law_773 : decode code 773 = .ok (.iaload, 1) := by decide +kernel
theorem dL_law_774 : decode code 774 = .ok (.aload_n 0, 1) := by decide +kernel
theorem dL_law_775 : decode code 775 = .ok (.iload_n 3, 1) := by decide +kernel
theorem dL_law_776 : decode code 776 = .ok (.iconst 2, 1) := by decide +kernel
theorem dL_law_777 : decode code 777 = .ok (.iadd, 1) := by decide +kernel
theorem dL_law_778 : decode code 778 = .ok (.iaload, 1) := by decide +kernel
theorem dL_law_779 : decode code 779 = .ok (.invokevirtual 111, 3) := by decide +kernel
theorem dL_law_782 : decode code 782 = .ok (.aload_n 2, 1) := by decide +kernel
theorem dL_law_783 : decode code 783 = .ok (.aload_n 0, 1) := by decide +kernel
theorem dL_law_784 : decode code 784 = .ok (.iload_n 3, 1) := by decide +kernel
theorem dL_law_785 : decode code 785 = .ok (.iconst 1, 1) := by decide +kernel
theorem dL_law_786 : decode code 786 = .ok (.iadd, 1) := by decide +kernel
theorem dL_law_787 : decode code 787 = .ok (.iaload, 1) := by decide +kernel
theorem dL_law_788 : decode code 788 = .ok (.aload_n 0, 1) := by decide +kernel
theorem dL_law_789 : decode code 789 = .ok (.iload_n 3, 1) := by decide +kernel
theorem dL_law_790 : decode code 790 = .ok (.iconst 2, 1) := by decide +kernel
theorem dL_law_791 : decode code 791 = .ok (.iadd, 1) := by decide +kernel
theorem dL_law_792 : decode code 792 = .ok (.iaload, 1) := by decide +kernel
theorem dL_law_793 : decode code 793 = .ok (.invokevirtual 114, 3) := by decide +kernel
theorem dL_law_796 : decode code 796 = .ok (.lcmp, 1) := by decide +kernel
theorem dL_law_797 : decode code 797 = .ok (.ifCond .eq 28, 3) := by decide +kernel
theorem dL_law_800 : decode code 800 = .ok (.iconst 0, 1) := by decide +kernel
theorem dL_law_801 : decode code 801 = .ok (.ireturn, 1) := by decide +kernel
theorem dL_law_802 : decode code 802 = .ok (.aload_n 1, 1) := by decide +kernel
theorem dL_law_803 : decode code 803 = .ok (.aload_n 0, 1) := by decide +kernel
theorem dL_law_804 : decode code 804 = .ok (.iload_n 3, 1) := by decide +kernel
theorem dL_law_805 : decode code 805 = .ok (.iconst 1, 1) := by decide +kernel
theorem dL_law_806 : decode code 806 = .ok (.iadd, 1) := by decide +kernel
theorem dL_law_807 : decode code 807 = .ok (.iaload, 1) := by decide +kernel
theorem dL_law_808 : decode code 808 = .ok (.invokevirtual 115, 3) := by decide +kernel
theorem dL_law_811 : decode code 811 = .ok (.aload_n 2, 1) := by decide +kernel
theorem dL_law_812 : decode code 812 = .ok (.aload_n 0, 1) := by decide +kernel
theorem dL_law_813 : decode code 813 = .ok (.iload_n 3, 1) := by decide +kernel
theorem dL_law_814 : decode code 814 = .ok (.iconst 1, 1) := by decide +kernel
theorem dL_law_815 : decode code 815 = .ok (.iadd, 1) := by decide +kernel
theorem dL_law_816 : decode code 816 = .ok (.iaload, 1) := by decide +kernel
theorem dL_law_817 : decode code 817 = .ok (.invokevirtual 118, 3) := by decide +kernel
theorem dL_law_820 : decode code 820 = .ok (.if_icmp .eq 5, 3) := by decide +kernel
theorem dL_law_823 : decode code 823 = .ok (.iconst 0, 1) := by decide +kernel
theorem dL_law_824 : decode code 824 = .ok (.ireturn, 1) := by decide +kernel
theorem dL_law_825 : decode code 825 = .ok (.iinc 3 6, 3) := by decide +kernel
theorem dL_law_828 : decode code 828 = .ok (.goto (-810), 3) := by decide +kernel
theorem dL_law_831 : decode code 831 = .ok (.iconst 1, 1) := by decide +kernel
theorem dL_law_832 : decode code 832 = .ok (.ireturn, 1) := by decide +kernel
