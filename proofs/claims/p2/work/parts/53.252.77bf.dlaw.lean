theorem dL_law_690 : decode code 690 = .ok (.pop, 1) := by decide +kernel
theorem dL_law_691 : decode code 691 = .ok (.aload_n 2, 1) := by decide +kernel
theorem dL_law_692 : decode code 692 = .ok (.aload_n 0, 1) := by decide +kernel
theorem dL_law_693 : decode code 693 = .ok (.iload_n 3, 1) := by decide +kernel
theorem dL_law_694 : decode code 694 = .ok (.iconst 1, 1) := by decide +kernel
theorem dL_law_695 : decode code 695 = .ok (.iadd, 1) := by decide +kernel
theorem dL_law_696 : decode code 696 = .ok (.iaload, 1) := by decide +kernel
theorem dL_law_697 : decode code 697 = .ok (.invokevirtual 83, 3) := by decide +kernel
theorem dL_law_700 : decode code 700 = .ok (.pop, 1) := by decide +kernel
theorem dL_law_701 : decode code 701 = .ok (.goto 335, 3) := by decide +kernel
theorem dL_law_704 : decode code 704 = .ok (.aload_n 1, 1) := by decide +kernel
theorem dL_law_705 : decode code 705 = .ok (.aload_n 0, 1) := by decide +kernel
theorem dL_law_706 : decode code 706 = .ok (.iload_n 3, 1) := by decide +kernel
theorem dL_law_707 : decode code 707 = .ok (.iconst 1, 1) := by decide +kernel
theorem dL_law_708 : decode code 708 = .ok (.iadd, 1) := by decide +kernel
theorem dL_law_709 : decode code 709 = .ok (.iaload, 1) := by decide +kernel
theorem dL_law_710 : decode code 710 = .ok (.invokevirtual 84, 3) := by decide +kernel
theorem dL_law_713 : decode code 713 = .ok (.pop, 1) := by decide +kernel
theorem dL_law_714 : decode code 714 = .ok (.aload_n 2, 1) := by decide +kernel
theorem dL_law_715 : decode code 715 = .ok (.aload_n 0, 1) := by decide +kernel
theorem dL_law_716 : decode code 716 = .ok (.iload_n 3, 1) := by decide +kernel
theorem dL_law_717 : decode code 717 = .ok (.iconst 1, 1) := by decide +kernel
theorem dL_law_718 : decode code 718 = .ok (.iadd, 1) := by decide +kernel
theorem dL_law_719 : decode code 719 = .ok (.iaload, 1) := by decide +kernel
theorem dL_law_720 : decode code 720 = .ok (.invokevirtual 87, 3) := by decide +kernel
theorem dL_law_723 : decode code 723 = .ok (.pop, 1) := by decide +kernel
theorem dL_law_724 : decode code 724 = .ok (.goto 312, 3) := by decide +kernel
theorem dL_law_727 : decode code 727 = .ok (.aload_n 1, 1) := by decide +kernel
theorem dL_law_728 : decode code 728 = .ok (.aload_n 0, 1) := by decide +kernel
theorem dL_law_729 : decode code 729 = .ok (.iload_n 3, 1) := by decide +kernel
theorem dL_law_730 : decode code 730 = .ok (.iconst 1, 1) := by decide +kernel
theorem dL_law_731 : decode code 731 = .ok (.iadd, 1) := by decide +kernel
theorem dL_law_732 : decode code 732 = .ok (.iaload, 1) := by decide +kernel
theorem dL_law_733 : decode code 733 = .ok (.invokevirtual 88, 3) := by decide +kernel
theorem dL_law_736 : decode code 736 = .ok (.pop, 1) := by decide +kernel
theorem dL_law_737 : decode code 737 = .ok (.aload_n 2, 1) := by decide +kernel
theorem dL_law_738 : decode code 738 = .ok (.aload_n 0, 1) := by decide +kernel
theorem dL_law_739 : decode code 739 = .ok (.iload_n 3, 1) := by decide +kernel
theorem dL_law_740 : decode code 740 = .ok (.iconst 1, 1) := by decide +kernel
theorem dL_law_741 : decode code 741 = .ok (.iadd, 1) := by decide +kernel
theorem dL_law_742 : decode code 742 = .ok (.iaload, 1) := by decide +kernel
theorem dL_law_743 : decode code 743 = .ok (.invokevirtual 91, 3) := by decide +kernel
theorem dL_law_746 : decode code 746 = .ok (.pop, 1) := by decide +kernel
theorem dL_law_747 : decode code 747 = .ok (.goto 289, 3) := by decide +kernel
theorem dL_law_750 : decode code 750 = .ok (.aload_n 1, 1) := by decide +kernel
theorem dL_law_751 : decode code 751 = .ok (.invokevirtual 92, 3) := by decide +kernel
theorem dL_law_754 : decode code 754 = .ok (.pop, 1) := by decide +kernel
theorem dL_law_755 : decode code 755 = .ok (.aload_n 2, 1) := by decide +kernel
theorem dL_law_756 : decode code 756 = .ok (.invokevirtual 96, 3) := by decide +kernel
theorem dL_law_759 : decode code 759 = .ok (.pop, 1) := by decide +kernel
theorem dL_law_760 : decode code 760 = .ok (.goto 276, 3) := by decide +kernel
theorem dL_law_763 : decode code 763 = .ok (.aload_n 1, 1) := by decide +kernel
theorem dL_law_764 : decode code 764 = .ok (.aload_n 0, 1) := by decide +kernel
theorem dL_law_765 : decode code 765 = .ok (.iload_n 3, 1) := by decide +kernel
theorem dL_law_766 : decode code 766 = .ok (.iconst 1, 1) := by decide +kernel
theorem dL_law_767 : decode code 767 = .ok (.iadd, 1) := by decide +kernel
theorem dL_law_768 : decode code 768 = .ok (.iaload, 1) := by decide +kernel
theorem dL_law_769 : decode code 769 = .ok (.aload_n 0, 1) := by decide +kernel
theorem dL_law_770 : decode code 770 = .ok (.iload_n 3, 1) := by decide +kernel
theorem dL_law_771 : decode code 771 = .ok (.iconst 2, 1) := by decide +kernel
theorem dL_law_772 : decode code 772 = .ok (.iadd, 1) := by decide +kernel
theorem dL_law_773 : decode code 773 = .ok (.iaload, 1) := by decide +kernel
theorem dL_law_774 : decode code 774 = .ok (.aload_n 0, 1) := by decide +kernel
theorem dL_law_775 : decode code 775 = .ok (.iload_n 3, 1) := by decide +kernel
theorem dL_law_776 : decode code 776 = .ok (.iconst 3, 1) := by decide +kernel
theorem dL_law_777 : decode code 777 = .ok (.iadd, 1) := by decide +kernel
theorem dL_law_778 : decode code 778 = .ok (.iaload, 1) := by decide +kernel
theorem dL_law_779 : decode code 779 = .ok (.invokevirtual 97, 3) := by decide +kernel
theorem dL_law_782 : decode code 782 = .ok (.pop, 1) := by decide +kernel
theorem dL_law_783 : decode code 783 = .ok (.aload_n 2, 1) := by decide +kernel
theorem dL_law_784 : decode code 784 = .ok (.aload_n 0, 1) := by decide +kernel
theorem dL_law_785 : decode code 785 = .ok (.iload_n 3, 1) := by decide +kernel
theorem dL_law_786 : decode code 786 = .ok (.iconst 1, 1) := by decide +kernel
theorem dL_law_787 : decode code 787 = .ok (.iadd, 1) := by decide +kernel
theorem dL_law_788 : decode code 788 = .ok (.iaload, 1) := by decide +kernel
theorem dL_law_789 : decode code 789 = .ok (.aload_n 0, 1) := by decide +kernel
theorem dL_law_790 : decode code 790 = .ok (.iload_n 3, 1) := by decide +kernel
theorem dL_law_791 : decode code 791 = .ok (.iconst 2, 1) := by decide +kernel
theorem dL_law_792 : decode code 792 = .ok (.iadd, 1) := by decide +kernel
theorem dL_law_793 : decode code 793 = .ok (.iaload, 1) := by decide +kernel
theorem dL_law_794 : decode code 794 = .ok (.aload_n 0, 1) := by decide +kernel
theorem dL_law_795 : decode code 795 = .ok (.iload_n 3, 1) := by decide +kernel
theorem dL_law_796 : decode code 796 = .ok (.iconst 3, 1) := by decide +kernel
theorem dL_law_797 : decode code 797 = .ok (.iadd, 1) := by decide +kernel
theorem dL_law_798 : decode code 798 = .ok (.iaload, 1) := by decide +kernel
theorem dL_law_799 : decode code 799 = .ok (.invokevirtual 100, 3) := by decide +kernel
theorem dL_law_802 : decode code 802 = .ok (.pop, 1) := by decide +kernel
theorem dL_law_803 : decode code 803 = .ok (.goto 233, 3) := by decide +kernel
theorem dL_law_806 : decode code 806 = .ok (.aload_n 1, 1) := by decide +kernel
theorem dL_law_807 : decode code 807 = .ok (.aload_n 0, 1) := by decide +kernel
