theorem d_law_748 : decode code 748 = .ok (.iload_n 3, 1) := by decide +kernel
theorem d_law_749 : decode code 749 = .ok (.iconst 2, 1) := by decide +kernel
theorem d_law_750 : decode code 750 = .ok (.iadd, 1) := by decide +kernel
theorem d_law_751 : decode code 751 = .ok (.iaload, 1) := by decide +kernel
theorem d_law_752 : decode code 752 = .ok (.aload_n 0, 1) := by decide +kernel
theorem d_law_753 : decode code 753 = .ok (.iload_n 3, 1) := by decide +kernel
theorem d_law_754 : decode code 754 = .ok (.iconst 3, 1) := by decide +kernel
theorem d_law_755 : decode code 755 = .ok (.iadd, 1) := by decide +kernel
theorem d_law_756 : decode code 756 = .ok (.iaload, 1) := by decide +kernel
theorem d_law_757 : decode code 757 = .ok (.invokevirtual 74, 3) := by decide +kernel
theorem d_law_760 : decode code 760 = .ok (.aload_n 2, 1) := by decide +kernel
theorem d_law_761 : decode code 761 = .ok (.aload_n 0, 1) := by decide +kernel
theorem d_law_762 : decode code 762 = .ok (.iload_n 3, 1) := by decide +kernel
theorem d_law_763 : decode code 763 = .ok (.iconst 1, 1) := by decide +kernel
theorem d_law_764 : decode code 764 = .ok (.iadd, 1) := by decide +kernel
theorem d_law_765 : decode code 765 = .ok (.iaload, 1) := by decide +kernel
theorem d_law_766 : decode code 766 = .ok (.aload_n 0, 1) := by decide +kernel
theorem d_law_767 : decode code 767 = .ok (.iload_n 3, 1) := by decide +kernel
theorem d_law_768 : decode code 768 = .ok (.iconst 2, 1) := by decide +kernel
theorem d_law_769 : decode code 769 = .ok (.iadd, 1) := by decide +kernel
theorem d_law_770 : decode code 770 = .ok (.iaload, 1) := by decide +kernel
theorem d_law_771 : decode code 771 = .ok (.aload_n 0, 1) := by decide +kernel
theorem d_law_772 : decode code 772 = .ok (.iload_n 3, 1) := by decide +kernel
theorem d_law_773 : decode code 773 = .ok (.iconst 3, 1) := by decide +kernel
theorem d_law_774 : decode code 774 = .ok (.iadd, 1) := by decide +kernel
theorem d_law_775 : decode code 775 = .ok (.iaload, 1) := by decide +kernel
theorem d_law_776 : decode code 776 = .ok (.invokevirtual 78, 3) := by decide +kernel
theorem d_law_779 : decode code 779 = .ok (.if_icmp .eq 71, 3) := by decide +kernel
theorem d_law_782 : decode code 782 = .ok (.iconst 0, 1) := by decide +kernel
theorem d_law_783 : decode code 783 = .ok (.ireturn, 1) := by decide +kernel
theorem d_law_784 : decode code 784 = .ok (.aload_n 1, 1) := by decide +kernel
theorem d_law_785 : decode code 785 = .ok (.aload_n 0, 1) := by decide +kernel
theorem d_law_786 : decode code 786 = .ok (.iload_n 3, 1) := by decide +kernel
theorem d_law_787 : decode code 787 = .ok (.iconst 1, 1) := by decide +kernel
theorem d_law_788 : decode code 788 = .ok (.iadd, 1) := by decide +kernel
theorem d_law_789 : decode code 789 = .ok (.iaload, 1) := by decide +kernel
theorem d_law_790 : decode code 790 = .ok (.aload_n 0, 1) := by decide +kernel
theorem d_law_791 : decode code 791 = .ok (.iload_n 3, 1) := by decide +kernel
theorem d_law_792 : decode code 792 = .ok (.iconst 2, 1) := by decide +kernel
theorem d_law_793 : decode code 793 = .ok (.iadd, 1) := by decide +kernel
theorem d_law_794 : decode code 794 = .ok (.iaload, 1) := by decide +kernel
theorem d_law_795 : decode code 795 = .ok (.invokevirtual 79, 3) := by decide +kernel
theorem d_law_798 : decode code 798 = .ok (.aload_n 2, 1) := by decide +kernel
theorem d_law_799 : decode code 799 = .ok (.aload_n 0, 1) := by decide +kernel
theorem d_law_800 : decode code 800 = .ok (.iload_n 3, 1) := by decide +kernel
theorem d_law_801 : decode code 801 = .ok (.iconst 1, 1) := by decide +kernel
theorem d_law_802 : decode code 802 = .ok (.iadd, 1) := by decide +kernel
theorem d_law_803 : decode code 803 = .ok (.iaload, 1) := by decide +kernel
theorem d_law_804 : decode code 804 = .ok (.aload_n 0, 1) := by decide +kernel
theorem d_law_805 : decode code 805 = .ok (.iload_n 3, 1) := by decide +kernel
theorem d_law_806 : decode code 806 = .ok (.iconst 2, 1) := by decide +kernel
theorem d_law_807 : decode code 807 = .ok (.iadd, 1) := by decide +kernel
theorem d_law_808 : decode code 808 = .ok (.iaload, 1) := by decide +kernel
theorem d_law_809 : decode code 809 = .ok (.invokevirtual 82, 3) := by decide +kernel
theorem d_law_812 : decode code 812 = .ok (.if_icmp .eq 38, 3) := by decide +kernel
theorem d_law_815 : decode code 815 = .ok (.iconst 0, 1) := by decide +kernel
theorem d_law_816 : decode code 816 = .ok (.ireturn, 1) := by decide +kernel
theorem d_law_817 : decode code 817 = .ok (.aload_n 1, 1) := by decide +kernel
theorem d_law_818 : decode code 818 = .ok (.aload_n 0, 1) := by decide +kernel
theorem d_law_819 : decode code 819 = .ok (.iload_n 3, 1) := by decide +kernel
