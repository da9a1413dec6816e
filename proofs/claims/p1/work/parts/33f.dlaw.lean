theorem dL_law_732 : decode code 732 = .ok (.iaload, 1) := by decide +kernel
theorem dL_law_733 : decode code 733 = .ok (.invokevirtual 88, 3) := by decide +kernel
theorem dL_law_736 : decode code 736 = .ok (.aload_n 2, 1) := by decide +kernel
theorem dL_law_737 : decode code 737 = .ok (.aload_n 0, 1) := by decide +kernel
theorem dL_law_738 : decode code 738 = .ok (.iload_n 3, 1) := by decide +kernel
theorem dL_law_739 : decode code 739 = .ok (.iconst 1, 1) := by decide +kernel
theorem dL_law_740 : decode code 740 = .ok (.iadd, 1) := by decide +kernel
theorem dL_law_741 : decode code 741 = .ok (.iaload, 1) := by decide +kernel
theorem dL_law_742 : decode code 742 = .ok (.invokevirtual 91, 3) := by decide +kernel
theorem dL_law_745 : decode code 745 = .ok (.if_icmp .eq 292, 3) := by decide +kernel
theorem dL_law_750 : decode code 750 = .ok (.aload_n 1, 1) := by decide +kernel
theorem dL_law_751 : decode code 751 = .ok (.invokevirtual 92, 3) := by decide +kernel
theorem dL_law_754 : decode code 754 = .ok (.aload_n 2, 1) := by decide +kernel
theorem dL_law_755 : decode code 755 = .ok (.invokevirtual 96, 3) := by decide +kernel
theorem dL_law_758 : decode code 758 = .ok (.if_icmp .eq 279, 3) := by decide +kernel
theorem dL_law_763 : decode code 763 = .ok (.aload_n 1, 1) := by decide +kernel
theorem dL_law_764 : decode code 764 = .ok (.aload_n 0, 1) := by decide +kernel
theorem dL_law_765 : decode code 765 = .ok (.iload_n 3, 1) := by decide +kernel
theorem dL_law_766 : decode code 766 = .ok (.iconst 1, 1) := by decide +kernel
theorem dL_law_767 : decode code 767 = .ok (.iadd, 1) := by decide +kernel
theorem dL_law_768 : decode code 768 = .ok (.iaload, 1) := by decide +kernel
theorem dL_law_769 : decode code 769 = .ok (.aload_n 0, 1) := by decide +kernel
theorem dL_law_770 : decode code 770 = .ok (.iload_n 3, 1) := by decide +kernel
theorem dL_law_771 : decode code 771 = .ok (.iconst 2, 1) := by decide +kernel
theorem dL_law_772 : decode code 772 = .ok (.iadd, 1) := by decide +kernel
theorem dL_law_773 : decode code 773 = .ok (.iaload, 1) := by decide +kernel
theorem dL_law_774 : decode code 774 = .ok (.aload_n 0, 1) := by decide +kernel
theorem dL_law_775 : decode code 775 = .ok (.iload_n 3, 1) := by decide +kernel
theorem dL_law_776 : decode code 776 = .ok (.iconst 3, 1) := by decide +kernel
theorem dL_law_777 : decode code 777 = .ok (.iadd, 1) := by decide +kernel
theorem dL_law_778 : decode code 778 = .ok (.iaload, 1) := by decide +kernel
theorem dL_law_779 : decode code 779 = .ok (.invokevirtual 97, 3) := by decide +kernel
theorem dL_law_782 : decode code 782 = .ok (.aload_n 2, 1) := by decide +kernel
theorem dL_law_783 : decode code 783 = .ok (.aload_n 0, 1) := by decide +kernel
theorem dL_law_784 : decode code 784 = .ok (.iload_n 3, 1) := by decide +kernel
theorem dL_law_785 : decode code 785 = .ok (.iconst 1, 1) := by decide +kernel
theorem dL_law_786 : decode code 786 = .ok (.iadd, 1) := by decide +kernel
theorem dL_law_787 : decode code 787 = .ok (.iaload, 1) := by decide +kernel
theorem dL_law_788 : decode code 788 = .ok (.aload_n 0, 1) := by decide +kernel
theorem dL_law_789 : decode code 789 = .ok (.iload_n 3, 1) := by decide +kernel
theorem dL_law_790 : decode code 790 = .ok (.iconst 2, 1) := by decide +kernel
theorem dL_law_791 : decode code 791 = .ok (.iadd, 1) := by decide +kernel
theorem dL_law_792 : decode code 792 = .ok (.iaload, 1) := by decide +kernel
theorem dL_law_793 : decode code 793 = .ok (.aload_n 0, 1) := by decide +kernel
theorem dL_law_794 : decode code 794 = .ok (.iload_n 3, 1) := by decide +kernel
theorem dL_law_795 : decode code 795 = .ok (.iconst 3, 1) := by decide +kernel
theorem dL_law_796 : decode code 796 = .ok (.iadd, 1) := by decide +kernel
theorem dL_law_797 : decode code 797 = .ok (.iaload, 1) := by decide +kernel
theorem dL_law_798 : decode code 798 = .ok (.invokevirtual 100, 3) := by decide +kernel
theorem dL_law_801 : decode code 801 = .ok (.if_icmp .eq 236, 3) := by decide +kernel
theorem dL_law_806 : decode code 806 = .ok (.aload_n 1, 1) := by decide +kernel
theorem dL_law_807 : decode code 807 = .ok (.aload_n 0, 1) := by decide +kernel
theorem dL_law_808 : decode code 808 = .ok (.iload_n 3, 1) := by decide +kernel
theorem dL_law_809 : decode code 809 = .ok (.iconst 1, 1) := by decide +kernel
theorem dL_law_810 : decode code 810 = .ok (.iadd, 1) := by decide +kernel
theorem dL_law_811 : decode code 811 = .ok (.iaload, 1) := by decide +kernel
theorem dL_law_812 : decode code 812 = .ok (.aload_n 0, 1) := by decide +kernel
theorem dL_law_813 : decode code 813 = .ok (.iload_n 3, 1) := by decide +kernel
theorem dL_law_814 : decode code 814 = .ok (.iconst 2, 1) := by decide +kernel
theorem dL_law_815 : decode code 815 = .ok (.iadd, 1) := by decide +kernel
theorem dL_law_816 : decode code 816 = .ok (.iaload, 1) := by decide +kernel
theorem dL_law_817 : decode code 817 = .ok (.invokevirtual 101, 3) := by decide +kernel
theorem dL_law_820 : decode code 820 = .ok (.aload_n 2, 1) := by decide +kernel
theorem dL_law_821 : decode code 821 = .ok (.aload_n 0, 1) := by decide +kernel
theorem dL_law_822 : decode code 822 = .ok (.iload_n 3, 1) := by decide +kernel
theorem dL_law_823 : decode code 823 = .ok (.iconst 1, 1) := by decide +kernel
theorem dL_law_824 : decode code 824 = .ok (.iadd, 1) := by decide +kernel
theorem dL_law_825 : decode code 825 = .ok (.iaload, 1) := by decide +kernel
theorem dL_law_826 : decode code 826 = .ok (.aload_n 0, 1) := by decide +kernel
theorem dL_law_827 : decode code 827 = .ok (.iload_n 3, 1) := by decide +kernel
theorem dL_law_828 : decode code 828 = .ok (.iconst 2, 1) := by decide +kernel
theorem dL_law_829 : decode code 829 = .ok (.iadd, 1) := by decide +kernel
theorem dL_law_830 : decode code 830 = .ok (.iaload, 1) := by decide +kernel
theorem dL_law_831 : decode code 831 = .ok (.invokevirtual 104, 3) := by decide +kernel
theorem dL_law_834 : decode code 834 = .ok (.if_icmp .eq 203, 3) := by decide +kernel
theorem dL_law_839 : decode code 839 = .ok (.aload_n 1, 1) := by decide +kernel
theorem dL_law_840 : decode code 840 = .ok (.aload_n 0, 1) := by decide +kernel
theorem dL_law_841 : decode code 841 = .ok (.iload_n 3, 1) := by decide +kernel
theorem dL_law_842 : decode code 842 = .ok (.iconst 1, 1) := by decide +kernel
theorem dL_law_843 : decode code 843 = .ok (.iadd, 1) := by decide +kernel
theorem dL_law_844 : decode code 844 = .ok (.iaload, 1) := by decide +kernel
theorem dL_law_845 : decode code 845 = .ok (.aload_n 0, 1) := by decide +kernel
theorem dL_law_846 : decode code 846 = .ok (.iload_n 3, 1) := by decide +kernel
theorem dL_law_847 : decode code 847 = .ok (.iconst 2, 1) := by decide +kernel
theorem dL_law_848 : decode code 848 = .ok (.iadd, 1) := by decide +kernel
theorem dL_law_849 : decode code 849 = .ok (.iaload, 1) := by decide +kernel
theorem dL_law_850 : decode code 850 = .ok (.invokevirtual 105, 3) := by decide +kernel
theorem dL_law_853 : decode code 853 = .ok (.aload_n 2, 1) := by decide +kernel
theorem dL_law_854 : decode code 854 = .ok (.aload_n 0, 1) := by decide +kernel
theorem dL_law_855 : decode code 855 = .ok (.iload_n 3, 1) := by decide +kernel
