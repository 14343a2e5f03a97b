theorem d_law_686 : decode code 686 = .ok (.if_icmp .eq 147, 3) := by decide +kernel
theorem d_law_689 : decode code 689 = .ok (.iconst 0, 1) := by decide +kernel
theorem d_law_690 : decode code 690 = .ok (.ireturn, 1) := by decide +kernel
theorem d_law_691 : decode code 691 = .ok (.aload_n 1, 1) := by decide +kernel
theorem d_law_692 : decode code 692 = .ok (.aload_n 0, 1) := by decide +kernel
theorem d_law_693 : decode code 693 = .ok (.iload_n 3, 1) := by decide +kernel
theorem d_law_694 : decode code 694 = .ok (.iconst 1, 1) := by decide +kernel
theorem d_law_695 : decode code 695 = .ok (.iadd, 1) := by decide +kernel
theorem d_law_696 : decode code 696 = .ok (.iaload, 1) := by decide +kernel
theorem d_law_697 : decode code 697 = .ok (.aload_n 0, 1) := by decide +kernel
theorem d_law_698 : decode code 698 = .ok (.iload_n 3, 1) := by decide +kernel
theorem d_law_699 : decode code 699 = .ok (.iconst 2, 1) := by decide +kernel
theorem d_law_700 : decode code 700 = .ok (.iadd, 1) := by decide +kernel
theorem d_law_701 : decode code 701 = .ok (.iaload, 1) := by decide +kernel
theorem d_law_702 : decode code 702 = .ok (.aload_n 0, 1) := by decide +kernel
theorem d_law_703 : decode code 703 = .ok (.iload_n 3, 1) := by decide +kernel
theorem d_law_704 : decode code 704 = .ok (.iconst 3, 1) := by decide +kernel
theorem d_law_705 : decode code 705 = .ok (.iadd, 1) := by decide +kernel
theorem d_law_706 : decode code 706 = .ok (.iaload, 1) := by decide +kernel
theorem d_law_707 : decode code 707 = .ok (.invokevirtual 79, 3) := by decide +kernel
theorem d_law_710 : decode code 710 = .ok (.aload_n 2, 1) := by decide +kernel
theorem d_law_711 : decode code 711 = .ok (.aload_n 0, 1) := by decide +kernel
theorem d_law_712 : decode code 712 = .ok (.iload_n 3, 1) := by decide +kernel
theorem d_law_713 : decode code 713 = .ok (.iconst 1, 1) := by decide +kernel
theorem d_law_714 : decode code 714 = .ok (.iadd, 1) := by decide +kernel
theorem d_law_715 : decode code 715 = .ok (.iaload, 1) := by decide +kernel
theorem d_law_716 : decode code 716 = .ok (.aload_n 0, 1) := by decide +kernel
theorem d_law_717 : decode code 717 = .ok (.iload_n 3, 1) := by decide +kernel
theorem d_law_718 : decode code 718 = .ok (.iconst 2, 1) := by decide +kernel
theorem d_law_719 : decode code 719 = .ok (.iadd, 1) := by decide +kernel
theorem d_law_720 : decode code 720 = .ok (.iaload, 1) := by decide +kernel
theorem d_law_721 : decode code 721 = .ok (.aload_n 0, 1) := by decide +kernel
theorem d_law_722 : decode code 722 = .ok (.iload_n 3, 1) := by decide +kernel
theorem d_law_723 : decode code 723 = .ok (.iconst 3, 1) := by decide +kernel
theorem d_law_724 : decode code 724 = .ok (.iadd, 1) := by decide +kernel
theorem d_law_725 : decode code 725 = .ok (.iaload, 1) := by decide +kernel
theorem d_law_726 : decode code 726 = .ok (.invokevirtual 82, 3) := by decide +kernel
theorem d_law_729 : decode code 729 = .ok (.if_icmp .eq 104, 3) := by decide +kernel
theorem d_law_732 : decode code 732 = .ok (.iconst 0, 1) := by decide +kernel
theorem d_law_733 : decode code 733 = .ok (.ireturn, 1) := by decide +kernel
theorem d_law_734 : decode code 734 = .ok (.aload_n 1, 1) := by decide +kernel
theorem d_law_735 : decode code 735 = .ok (.aload_n 0, 1) := by decide +kernel
theorem d_law_736 : decode code 736 = .ok (.iload_n 3, 1) := by decide +kernel
theorem d_law_737 : decode code 737 = .ok (.iconst 1, 1) := by decide +kernel
theorem d_law_738 : decode code 738 = .ok (.iadd, 1) := by decide +kernel
theorem d_law_739 : decode code 739 = .ok (.iaload, 1) := by decide +kernel
theorem d_law_740 : decode code 740 = .ok (.aload_n 0, 1) := by decide +kernel
theorem d_law_741 : decode code 741 = .ok (.iload_n 3, 1) := by decide +kernel
theorem d_law_742 : decode code 742 = .ok (.iconst 2, 1) := by decide +kernel
theorem d_law_743 : decode code 743 = .ok (.iadd, 1) := by decide +kernel
theorem d_law_744 : decode code 744 = .ok (.iaload, 1) := by decide +kernel
theorem d_law_745 : decode code 745 = .ok (.invokevirtual 83, 3) := by decide +kernel
theorem d_law_748 : decode code 748 = .ok (.aload_n 2, 1) := by decide +kernel
theorem d_law_749 : decode code 749 = .ok (.aload_n 0, 1) := by decide +kernel
theorem d_law_750 : decode code 750 = .ok (.iload_n 3, 1) := by decide +kernel
theorem d_law_751 : decode code 751 = .ok (.iconst 1, 1) := by decide +kernel
theorem d_law_752 : decode code 752 = .ok (.iadd, 1) := by decide +kernel
theorem d_law_753 : decode code 753 = .ok (.iaload, 1) := by decide +kernel
theorem d_law_754 : decode code 754 = .ok (.aload_n 0, 1) := by decide +kernel
theorem d_law_755 : decode code 755 = .ok (.iload_n 3, 1) := by decide +kernel
theorem d_law_756 : decode code 756 = .ok (.iconst 2, 1) := by decide +kernel
theorem d_law_757 : decode code 757 = .ok (.iadd, 1) := by decide +kernel
theorem d_law_758 : decode code 758 = .ok (.iaload, 1) := by decide +kernel
theorem d_law_759 : decode code 759 = .ok (.invokevirtual 86, 3) := by decide +kernel
theorem d_law_762 : decode code 762 = .ok (.if_icmp .eq 71, 3) := by decide +kernel
theorem d_law_765 : decode code 765 = .ok (.iconst 0, 1) := by decide +kernel
theorem d_law_766 : decode code 766 = .ok (.ireturn, 1) := by decide +kernel
theorem d_law_767 : decode code 767 = .ok (.aload_n 1, 1) := by decide +kernel
theorem d_law_768 : decode code 768 = .ok (.aload_n 0, 1) := by decide +kernel
theorem d_law_769 : decode code 769 = .ok (.iload_n 3, 1) := by decide +kernel
theorem d_law_770 : decode code 770 = .ok (.iconst 1, 1) := by decide +kernel
theorem d_law_771 : decode code 771 = .ok (.iadd, 1) := by decide +kernel
theorem d_law_772 : decode code 772 = .ok (.iaload, 1) := by decide +kernel
theorem d_law_773 : decode code 773 = .ok (.aload_n 0, 1) := by decide +kernel
theorem d_law_774 : decode code 774 = .ok (.iload_n 3, 1) := by decide +kernel
theorem d_law_775 : decode code 775 = .ok (.iconst 2, 1) := by decide +kernel
theorem d_law_776 : decode code 776 = .ok (.iadd, 1) := by decide +kernel
theorem d_law_777 : decode code 777 = .ok (.iaload, 1) := by decide +kernel
theorem d_law_778 : decode code 778 = .ok (.invokevirtual 87, 3) := by decide +kernel
theorem d_law_781 : decode code 781 = .ok (.aload_n 2, 1) := by decide +kernel
theorem d_law_782 : decode code 782 = .ok (.aload_n 0, 1) := by decide +kernel
theorem d_law_783 : decode code 783 = .ok (.iload_n 3, 1) := by decide +kernel
theorem d_law_784 : decode code 784 = .ok (.iconst 1, 1) := by decide +kernel
theorem d_law_785 : decode code 785 = .ok (.iadd, 1) := by decide +kernel
theorem d_law_786 : decode code 786 = .ok (.iaload, 1) := by decide +kernel
theorem d_law_787 : decode code 787 = .ok (.aload_n 0, 1) := by decide +kernel
theorem d_law_788 : decode code 788 = .ok (.iload_n 3, 1) := by decide +kernel
theorem d_law_789 : decode code 789 = .ok (.iconst 2, 1) := by decide +kernel
theorem d_law_790 : decode code 790 = .ok (.iadd, 1) := by decide +kernel
theorem d_law_791 : decode code 791 = .ok (.iaload, 1) := by decide +kernel
theorem d_law_792 : decode code 792 = .ok (.invokevirtual 90, 3) := by decide +kernel
theorem d_law_795 : decode code 795 = .ok (.if_icmp .eq 38, 3) := by decide +kernel
theorem d_law_798 : decode code 798 = .ok (.iconst 0, 1) := by decide +kernel
theorem d_law_799 : decode code 799 = .ok (.ireturn, 1) := by decide +kernel
theorem d_law_800 : decode code 800 = .ok (.aload_n 1, 1) := by decide +kernel
theorem d_law_801 : decode code 801 = .ok (.aload_n 0, 1) := by decide +kernel
theorem d_law_802 : decode code 802 = .ok (.iload_n 3, 1) := by decide +kernel
theorem d_law_803 : decode code 803 = .ok (.iconst 1, 1) := by decide +kernel
theorem d_law_804 : decode code 804 = .ok (.iadd, 1) := by decide +kernel
theorem d_law_805 : decode code 805 = .ok (.iaload, 1) := by decide +kernel
theorem d_law_806 : decode code 806 = .ok (.aload_n 0, 1) := by decide +kernel
theorem d_law_807 : decode code 807 = .ok (.iload_n 3, 1) := by decide +kernel
theorem d_law_808 : decode code 808 = .ok (.iconst 2, 1) := by decide +kernel
theorem d_law_809 : decode code 809 = .ok (.iadd, 1) := by decide +kernel
theorem d_law_810 : decode code 810 = .ok (.iaload, 1) := by decide +kernel
theorem d_law_811 : decode code 811 = .ok (.invokevirtual 91, 3) := by decide +kernel
theorem d_law_814 : decode code 814 = .ok (.aload_n 2, 1) := by decide +kernel
theorem d_law_815 : decode code 815 = .ok (.aload_n 0, 1) := by decide +kernel
theorem d_law_816 : decode code 816 = .ok (.iload_n 3, 1) := by decide +kernel
theorem d_law_817 : decode code 817 = .ok (.iconst 1, 1) := by decide +kernel
theorem d_law_818 : decode code 818 = .ok (.iadd, 1) := by decide +kernel
theorem d_law_819 : decode code 819 = .ok (.iaload, 1) := by decide +kernel
theorem d_law_820 : decode code 820 = .ok (.aload_n 0, 1) := by decide +kernel
theorem d_law_821 : decode code 821 = .ok (.iload_n 3, 1) := by decide +kernel
theorem d_law_822 : decode code 822 = .ok (.iconst 2, 1) := by decide +kernel
theorem d_law_823 : decode code 823 = .ok (.iadd, 1) := by decide +kernel
theorem d_law_824 : decode code 824 = .ok (.iaload, 1) := by decide +kernel
theorem d_law_825 : decode code 825 = .ok (.invokevirtual 94, 3) := by decide +kernel
theorem d_law_828 : decode code 828 = .ok (.if_icmp .eq 5, 3) := by decide +kernel
theorem d_law_831 : decode code 831 = .ok (.iconst 0, 1) := by decide +kernel
