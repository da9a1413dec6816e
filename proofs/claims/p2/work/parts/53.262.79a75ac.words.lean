theorem dX12_init_682 : decode cX12_init 682 = .ok (.bipush 105, 2) := by decide +kernel
theorem dX12_init_684 : decode cX12_init 684 = .ok (.iastore, 1) := by decide +kernel
theorem dX12_init_685 : decode cX12_init 685 = .ok (.dup, 1) := by decide +kernel
theorem dX12_init_686 : decode cX12_init 686 = .ok (.bipush 97, 2) := by decide +kernel
theorem dX12_init_688 : decode cX12_init 688 = .ok (.bipush 108, 2) := by decide +kernel
theorem dX12_init_690 : decode cX12_init 690 = .ok (.iastore, 1) := by decide +kernel
theorem dX12_init_691 : decode cX12_init 691 = .ok (.dup, 1) := by decide +kernel
theorem dX12_init_692 : decode cX12_init 692 = .ok (.bipush 98, 2) := by decide +kernel
theorem dX12_init_694 : decode cX12_init 694 = .ok (.bipush 32, 2) := by decide +kernel
theorem dX12_init_696 : decode cX12_init 696 = .ok (.iastore, 1) := by decide +kernel
theorem dX12_init_697 : decode cX12_init 697 = .ok (.dup, 1) := by decide +kernel
theorem dX12_init_698 : decode cX12_init 698 = .ok (.bipush 99, 2) := by decide +kernel
theorem dX12_init_700 : decode cX12_init 700 = .ok (.bipush 110, 2) := by decide +kernel
theorem dX12_init_702 : decode cX12_init 702 = .ok (.iastore, 1) := by decide +kernel
theorem dX12_init_703 : decode cX12_init 703 = .ok (.dup, 1) := by decide +kernel
theorem dX12_init_704 : decode cX12_init 704 = .ok (.bipush 100, 2) := by decide +kernel
theorem dX12_init_706 : decode cX12_init 706 = .ok (.bipush 101, 2) := by decide +kernel
theorem dX12_init_708 : decode cX12_init 708 = .ok (.iastore, 1) := by decide +kernel
theorem dX12_init_709 : decode cX12_init 709 = .ok (.dup, 1) := by decide +kernel
theorem dX12_init_710 : decode cX12_init 710 = .ok (.bipush 101, 2) := by decide +kernel
theorem dX12_init_712 : decode cX12_init 712 = .ok (.bipush 101, 2) := by decide +kernel
theorem dX12_init_714 : decode cX12_init 714 = .ok (.iastore, 1) := by decide +kernel
theorem dX12_init_715 : decode cX12_init 715 = .ok (.dup, 1) := by decide +kernel
theorem dX12_init_716 : decode cX12_init 716 = .ok (.bipush 102, 2) := by decide +kernel
theorem dX12_init_718 : decode cX12_init 718 = .ok (.bipush 100, 2) := by decide +kernel
theorem dX12_init_720 : decode cX12_init 720 = .ok (.iastore, 1) := by decide +kernel
theorem dX12_init_721 : decode cX12_init 721 = .ok (.dup, 1) := by decide +kernel
theorem dX12_init_722 : decode cX12_init 722 = .ok (.bipush 103, 2) := by decide +kernel
theorem dX12_init_724 : decode cX12_init 724 = .ok (.bipush 32, 2) := by decide +kernel
theorem dX12_init_726 : decode cX12_init 726 = .ok (.iastore, 1) := by decide +kernel
theorem dX12_init_727 : decode cX12_init 727 = .ok (.dup, 1) := by decide +kernel
theorem dX12_init_728 : decode cX12_init 728 = .ok (.bipush 104, 2) := by decide +kernel
theorem dX12_init_730 : decode cX12_init 730 = .ok (.bipush 98, 2) := by decide +kernel
theorem dX12_init_732 : decode cX12_init 732 = .ok (.iastore, 1) := by decide +kernel
theorem dX12_init_733 : decode cX12_init 733 = .ok (.dup, 1) := by decide +kernel
theorem dX12_init_734 : decode cX12_init 734 = .ok (.bipush 105, 2) := by decide +kernel
theorem dX12_init_736 : decode cX12_init 736 = .ok (.bipush 105, 2) := by decide +kernel
theorem dX12_init_738 : decode cX12_init 738 = .ok (.iastore, 1) := by decide +kernel
theorem dX12_init_739 : decode cX12_init 739 = .ok (.dup, 1) := by decide +kernel
theorem dX12_init_740 : decode cX12_init 740 = .ok (.bipush 106, 2) := by decide +kernel
theorem dX12_init_742 : decode cX12_init 742 = .ok (.bipush 114, 2) := by decide +kernel
theorem dX12_init_744 : decode cX12_init 744 = .ok (.iastore, 1) := by decide +kernel
theorem dX12_init_745 : decode cX12_init 745 = .ok (.dup, 1) := by decide +kernel
theorem dX12_init_746 : decode cX12_init 746 = .ok (.bipush 107, 2) := by decide +kernel
theorem dX12_init_748 : decode cX12_init 748 = .ok (.bipush 116, 2) := by decide +kernel
theorem dX12_init_750 : decode cX12_init 750 = .ok (.iastore, 1) := by decide +kernel
theorem dX12_init_751 : decode cX12_init 751 = .ok (.dup, 1) := by decide +kernel
theorem dX12_init_752 : decode cX12_init 752 = .ok (.bipush 108, 2) := by decide +kernel
theorem dX12_init_754 : decode cX12_init 754 = .ok (.bipush 104, 2) := by decide +kernel
theorem dX12_init_756 : decode cX12_init 756 = .ok (.iastore, 1) := by decide +kernel
theorem dX12_init_757 : decode cX12_init 757 = .ok (.dup, 1) := by decide +kernel
theorem dX12_init_758 : decode cX12_init 758 = .ok (.bipush 109, 2) := by decide +kernel
theorem dX12_init_760 : decode cX12_init 760 = .ok (.bipush 32, 2) := by decide +kernel
theorem dX12_init_762 : decode cX12_init 762 = .ok (.iastore, 1) := by decide +kernel
theorem dX12_init_763 : decode cX12_init 763 = .ok (.dup, 1) := by decide +kernel
theorem dX12_init_764 : decode cX12_init 764 = .ok (.bipush 110, 2) := by decide +kernel
theorem dX12_init_766 : decode cX12_init 766 = .ok (.bipush 114, 2) := by decide +kernel
theorem dX12_init_768 : decode cX12_init 768 = .ok (.iastore, 1) := by decide +kernel
theorem dX12_init_769 : decode cX12_init 769 = .ok (.dup, 1) := by decide +kernel
theorem dX12_init_770 : decode cX12_init 770 = .ok (.bipush 111, 2) := by decide +kernel
theorem dX12_init_772 : decode cX12_init 772 = .ok (.bipush 101, 2) := by decide +kernel
theorem dX12_init_774 : decode cX12_init 774 = .ok (.iastore, 1) := by decide +kernel
theorem dX12_init_775 : decode cX12_init 775 = .ok (.dup, 1) := by decide +kernel
theorem dX12_init_776 : decode cX12_init 776 = .ok (.bipush 112, 2) := by decide +kernel
theorem dX12_init_778 : decode cX12_init 778 = .ok (.bipush 97, 2) := by decide +kernel
theorem dX12_init_780 : decode cX12_init 780 = .ok (.iastore, 1) := by decide +kernel
theorem dX12_init_781 : decode cX12_init 781 = .ok (.dup, 1) := by decide +kernel
theorem dX12_init_782 : decode cX12_init 782 = .ok (.bipush 113, 2) := by decide +kernel
theorem dX12_init_784 : decode cX12_init 784 = .ok (.bipush 100, 2) := by decide +kernel
theorem dX12_init_786 : decode cX12_init 786 = .ok (.iastore, 1) := by decide +kernel
theorem dX12_init_787 : decode cX12_init 787 = .ok (.dup, 1) := by decide +kernel
theorem dX12_init_788 : decode cX12_init 788 = .ok (.bipush 114, 2) := by decide +kernel
theorem dX12_init_790 : decode cX12_init 790 = .ok (.bipush 32, 2) := by decide +kernel
theorem dX12_init_792 : decode cX12_init 792 = .ok (.iastore, 1) := by decide +kernel
theorem dX12_init_793 : decode cX12_init 793 = .ok (.dup, 1) := by decide +kernel
theorem dX12_init_794 : decode cX12_init 794 = .ok (.bipush 115, 2) := by decide +kernel
theorem dX12_init_796 : decode cX12_init 796 = .ok (.bipush 109, 2) := by decide +kernel
theorem dX12_init_798 : decode cX12_init 798 = .ok (.iastore, 1) := by decide +kernel
theorem dX12_init_799 : decode cX12_init 799 = .ok (.dup, 1) := by decide +kernel
theorem dX12_init_800 : decode cX12_init 800 = .ok (.bipush 116, 2) := by decide +kernel
theorem dX12_init_802 : decode cX12_init 802 = .ok (.bipush 101, 2) := by decide +kernel
theorem dX12_init_804 : decode cX12_init 804 = .ok (.iastore, 1) := by decide +kernel
theorem dX12_init_805 : decode cX12_init 805 = .ok (.dup, 1) := by decide +kernel
theorem dX12_init_806 : decode cX12_init 806 = .ok (.bipush 117, 2) := by decide +kernel
theorem dX12_init_808 : decode cX12_init 808 = .ok (.bipush 110, 2) := by decide +kernel
theorem dX12_init_810 : decode cX12_init 810 = .ok (.iastore, 1) := by decide +kernel
theorem dX12_init_811 : decode cX12_init 811 = .ok (.dup, 1) := by decide +kernel
theorem dX12_init_812 : decode cX12_init 812 = .ok (.bipush 118, 2) := by decide +kernel
theorem dX12_init_814 : decode cX12_init 814 = .ok (.bipush 100, 2) := by decide +kernel
theorem dX12_init_816 : decode cX12_init 816 = .ok (.iastore, 1) := by decide +kernel
theorem dX12_init_817 : decode cX12_init 817 = .ok (.dup, 1) := by decide +kernel
theorem dX12_init_818 : decode cX12_init 818 = .ok (.bipush 119, 2) := by decide +kernel
theorem dX12_init_820 : decode cX12_init 820 = .ok (.bipush 32, 2) := by decide +kernel
theorem dX12_init_822 : decode cX12_init 822 = .ok (.iastore, 1) := by decide +kernel
theorem dX12_init_823 : decode cX12_init 823 = .ok (.dup, 1) := by decide +kernel
theorem dX12_init_824 : decode cX12_init 824 = .ok (.bipush 120, 2) := by decide +kernel
theorem dX12_init_826 : decode cX12_init 826 = .ok (.bipush 98, 2) := by decide +kernel
theorem dX12_init_828 : decode cX12_init 828 = .ok (.iastore, 1) := by decide +kernel
theorem dX12_init_829 : decode cX12_init 829 = .ok (.dup, 1) := by decide +kernel
theorem dX12_init_830 : decode cX12_init 830 = .ok (.bipush 121, 2) := by decide +kernel
theorem dX12_init_832 : decode cX12_init 832 = .ok (.bipush 114, 2) := by decide +kernel
theorem dX12_init_834 : decode cX12_init 834 = .ok (.iastore, 1) := by decide +kernel
theorem dX12_init_835 : decode cX12_init 835 = .ok (.dup, 1) := by decide +kernel
theorem dX12_init_836 : decode cX12_init 836 = .ok (.bipush 122, 2) := by decide +kernel
theorem dX12_init_838 : decode cX12_init 838 = .ok (.bipush 105, 2) := by decide +kernel
theorem dX12_init_840 : decode cX12_init 840 = .ok (.iastore, 1) := by decide +kernel
theorem dX12_init_841 : decode cX12_init 841 = .ok (.dup, 1) := by decide +kernel
theorem dX12_init_842 : decode cX12_init 842 = .ok (.bipush 123, 2) := by decide +kernel
theorem dX12_init_844 : decode cX12_init 844 = .ok (.bipush 100, 2) := by decide +kernel
theorem dX12_init_846 : decode cX12_init 846 = .ok (.iastore, 1) := by decide +kernel
theorem dX12_init_847 : decode cX12_init 847 = .ok (.dup, 1) := by decide +kernel
theorem dX12_init_848 : decode cX12_init 848 = .ok (.bipush 124, 2) := by decide +kernel
theorem dX12_init_850 : decode cX12_init 850 = .ok (.bipush 101, 2) := by decide +kernel
theorem dX12_init_852 : decode cX12_init 852 = .ok (.iastore, 1) := by decide +kernel
theorem dX12_init_853 : decode cX12_init 853 = .ok (.dup, 1) := by decide +kernel
theorem dX12_init_854 : decode cX12_init 854 = .ok (.bipush 125, 2) := by decide +kernel
theorem dX12_init_856 : decode cX12_init 856 = .ok (.bipush 32, 2) := by decide +kernel
theorem dX12_init_858 : decode cX12_init 858 = .ok (.iastore, 1) := by decide +kernel
theorem dX12_init_859 : decode cX12_init 859 = .ok (.dup, 1) := by decide +kernel
theorem dX12_init_860 : decode cX12_init 860 = .ok (.bipush 126, 2) := by decide +kernel
theorem dX12_init_862 : decode cX12_init 862 = .ok (.bipush 97, 2) := by decide +kernel
theorem dX12_init_864 : decode cX12_init 864 = .ok (.iastore, 1) := by decide +kernel
theorem dX12_init_865 : decode cX12_init 865 = .ok (.dup, 1) := by decide +kernel
theorem dX12_init_866 : decode cX12_init 866 = .ok (.bipush 127, 2) := by decide +kernel
theorem dX12_init_868 : decode cX12_init 868 = .ok (.bipush 116, 2) := by decide +kernel
theorem dX12_init_870 : decode cX12_init 870 = .ok (.iastore, 1) := by decide +kernel
theorem dX12_init_871 : decode cX12_init 871 = .ok (.dup, 1) := by decide +kernel
theorem dX12_init_872 : decode cX12_init 872 = .ok (.sipush 128, 3) := by decide +kernel
theorem dX12_init_875 : decode cX12_init 875 = .ok (.bipush 32, 2) := by decide +kernel
theorem dX12_init_877 : decode cX12_init 877 = .ok (.iastore, 1) := by decide +kernel
theorem dX12_init_878 : decode cX12_init 878 = .ok (.dup, 1) := by decide +kernel
theorem dX12_init_879 : decode cX12_init 879 = .ok (.sipush 129, 3) := by decide +kernel
theorem dX12_init_882 : decode cX12_init 882 = .ok (.bipush 102, 2) := by decide +kernel
theorem dX12_init_884 : decode cX12_init 884 = .ok (.iastore, 1) := by decide +kernel
theorem dX12_init_885 : decode cX12_init 885 = .ok (.dup, 1) := by decide +kernel
theorem dX12_init_886 : decode cX12_init 886 = .ok (.sipush 130, 3) := by decide +kernel
theorem dX12_init_889 : decode cX12_init 889 = .ok (.bipush 114, 2) := by decide +kernel
theorem dX12_init_891 : decode cX12_init 891 = .ok (.iastore, 1) := by decide +kernel
theorem dX12_init_892 : decode cX12_init 892 = .ok (.dup, 1) := by decide +kernel
theorem dX12_init_893 : decode cX12_init 893 = .ok (.sipush 131, 3) := by decide +kernel
theorem dX12_init_896 : decode cX12_init 896 = .ok (.bipush 111, 2) := by decide +kernel
theorem dX12_init_898 : decode cX12_init 898 = .ok (.iastore, 1) := by decide +kernel
theorem dX12_init_899 : decode cX12_init 899 = .ok (.dup, 1) := by decide +kernel
theorem dX12_init_900 : decode cX12_init 900 = .ok (.sipush 132, 3) := by decide +kernel
theorem dX12_init_903 : decode cX12_init 903 = .ok (.bipush 109, 2) := by decide +kernel
theorem dX12_init_905 : decode cX12_init 905 = .ok (.iastore, 1) := by decide +kernel
theorem dX12_init_906 : decode cX12_init 906 = .ok (.dup, 1) := by decide +kernel
theorem dX12_init_907 : decode cX12_init 907 = .ok (.sipush 133, 3) := by decide +kernel
theorem dX12_init_910 : decode cX12_init 910 = .ok (.bipush 32, 2) := by decide +kernel
theorem dX12_init_912 : decode cX12_init 912 = .ok (.iastore, 1) := by decide +kernel
theorem dX12_init_913 : decode cX12_init 913 = .ok (.dup, 1) := by decide +kernel
theorem dX12_init_914 : decode cX12_init 914 = .ok (.sipush 134, 3) := by decide +kernel
theorem dX12_init_917 : decode cX12_init 917 = .ok (.bipush 119, 2) := by decide +kernel
theorem dX12_init_919 : decode cX12_init 919 = .ok (.iastore, 1) := by decide +kernel
theorem dX12_init_920 : decode cX12_init 920 = .ok (.dup, 1) := by decide +kernel
theorem dX12_init_921 : decode cX12_init 921 = .ok (.sipush 135, 3) := by decide +kernel
theorem dX12_init_924 : decode cX12_init 924 = .ok (.bipush 111, 2) := by decide +kernel
theorem dX12_init_926 : decode cX12_init 926 = .ok (.iastore, 1) := by decide +kernel
theorem dX12_init_927 : decode cX12_init 927 = .ok (.dup, 1) := by decide +kernel
theorem dX12_init_928 : decode cX12_init 928 = .ok (.sipush 136, 3) := by decide +kernel
theorem dX12_init_931 : decode cX12_init 931 = .ok (.bipush 114, 2) := by decide +kernel
theorem dX12_init_933 : decode cX12_init 933 = .ok (.iastore, 1) := by decide +kernel
theorem dX12_init_934 : decode cX12_init 934 = .ok (.dup, 1) := by decide +kernel
theorem dX12_init_935 : decode cX12_init 935 = .ok (.sipush 137, 3) := by decide +kernel
theorem dX12_init_938 : decode cX12_init 938 = .ok (.bipush 116, 2) := by decide +kernel
theorem dX12_init_940 : decode cX12_init 940 = .ok (.iastore, 1) := by decide +kernel
theorem dX12_init_941 : decode cX12_init 941 = .ok (.dup, 1) := by decide +kernel
theorem dX12_init_942 : decode cX12_init 942 = .ok (.sipush 138, 3) := by decide +kernel
theorem dX12_init_945 : decode cX12_init 945 = .ok (.bipush 104, 2) := by decide +kernel
theorem dX12_init_947 : decode cX12_init 947 = .ok (.iastore, 1) := by decide +kernel
theorem dX12_init_948 : decode cX12_init 948 = .ok (.dup, 1) := by decide +kernel
theorem dX12_init_949 : decode cX12_init 949 = .ok (.sipush 139, 3) := by decide +kernel
theorem dX12_init_952 : decode cX12_init 952 = .ok (.bipush 32, 2) := by decide +kernel
theorem dX12_init_954 : decode cX12_init 954 = .ok (.iastore, 1) := by decide +kernel
theorem dX12_init_955 : decode cX12_init 955 = .ok (.dup, 1) := by decide +kernel
theorem dX12_init_956 : decode cX12_init 956 = .ok (.sipush 140, 3) := by decide +kernel
theorem dX12_init_959 : decode cX12_init 959 = .ok (.bipush 103, 2) := by decide +kernel
theorem dX12_init_961 : decode cX12_init 961 = .ok (.iastore, 1) := by decide +kernel
theorem dX12_init_962 : decode cX12_init 962 = .ok (.dup, 1) := by decide +kernel
theorem dX12_init_963 : decode cX12_init 963 = .ok (.sipush 141, 3) := by decide +kernel
theorem dX12_init_966 : decode cX12_init 966 = .ok (.bipush 111, 2) := by decide +kernel
theorem dX12_init_968 : decode cX12_init 968 = .ok (.iastore, 1) := by decide +kernel
theorem dX12_init_969 : decode cX12_init 969 = .ok (.dup, 1) := by decide +kernel
theorem dX12_init_970 : decode cX12_init 970 = .ok (.sipush 142, 3) := by decide +kernel
theorem dX12_init_973 : decode cX12_init 973 = .ok (.bipush 32, 2) := by decide +kernel
theorem dX12_init_975 : decode cX12_init 975 = .ok (.iastore, 1) := by decide +kernel
theorem dX12_init_976 : decode cX12_init 976 = .ok (.dup, 1) := by decide +kernel
theorem dX12_init_977 : decode cX12_init 977 = .ok (.sipush 143, 3) := by decide +kernel
theorem dX12_init_980 : decode cX12_init 980 = .ok (.bipush 115, 2) := by decide +kernel
theorem dX12_init_982 : decode cX12_init 982 = .ok (.iastore, 1) := by decide +kernel
theorem dX12_init_983 : decode cX12_init 983 = .ok (.dup, 1) := by decide +kernel
theorem dX12_init_984 : decode cX12_init 984 = .ok (.sipush 144, 3) := by decide +kernel
theorem dX12_init_987 : decode cX12_init 987 = .ok (.bipush 116, 2) := by decide +kernel
theorem dX12_init_989 : decode cX12_init 989 = .ok (.iastore, 1) := by decide +kernel
theorem dX12_init_990 : decode cX12_init 990 = .ok (.dup, 1) := by decide +kernel
theorem dX12_init_991 : decode cX12_init 991 = .ok (.sipush 145, 3) := by decide +kernel
theorem dX12_init_994 : decode cX12_init 994 = .ok (.bipush 97, 2) := by decide +kernel
theorem dX12_init_996 : decode cX12_init 996 = .ok (.iastore, 1) := by decide +kernel
theorem dX12_init_997 : decode cX12_init 997 = .ok (.dup, 1) := by decide +kernel
theorem dX12_init_998 : decode cX12_init 998 = .ok (.sipush 146, 3) := by decide +kernel
theorem dX12_init_1001 : decode cX12_init 1001 = .ok (.bipush 121, 2) := by decide +kernel
theorem dX12_init_1003 : decode cX12_init 1003 = .ok (.iastore, 1) := by decide +kernel
theorem dX12_init_1004 : decode cX12_init 1004 = .ok (.dup, 1) := by decide +kernel
theorem dX12_init_1005 : decode cX12_init 1005 = .ok (.sipush 147, 3) := by decide +kernel
theorem dX12_init_1008 : decode cX12_init 1008 = .ok (.bipush 32, 2) := by decide +kernel
theorem dX12_init_1010 : decode cX12_init 1010 = .ok (.iastore, 1) := by decide +kernel
theorem dX12_init_1011 : decode cX12_init 1011 = .ok (.dup, 1) := by decide +kernel
theorem dX12_init_1012 : decode cX12_init 1012 = .ok (.sipush 148, 3) := by decide +kernel
theorem dX12_init_1015 : decode cX12_init 1015 = .ok (.bipush 97, 2) := by decide +kernel
theorem dX12_init_1017 : decode cX12_init 1017 = .ok (.iastore, 1) := by decide +kernel
theorem dX12_init_1018 : decode cX12_init 1018 = .ok (.dup, 1) := by decide +kernel
theorem dX12_init_1019 : decode cX12_init 1019 = .ok (.sipush 149, 3) := by decide +kernel
theorem dX12_init_1022 : decode cX12_init 1022 = .ok (.bipush 103, 2) := by decide +kernel
theorem dX12_init_1024 : decode cX12_init 1024 = .ok (.iastore, 1) := by decide +kernel
theorem dX12_init_1025 : decode cX12_init 1025 = .ok (.dup, 1) := by decide +kernel
theorem dX12_init_1026 : decode cX12_init 1026 = .ok (.sipush 150, 3) := by decide +kernel
theorem dX12_init_1029 : decode cX12_init 1029 = .ok (.bipush 97, 2) := by decide +kernel
theorem dX12_init_1031 : decode cX12_init 1031 = .ok (.iastore, 1) := by decide +kernel
theorem dX12_init_1032 : decode cX12_init 1032 = .ok (.dup, 1) := by decide +kernel
theorem dX12_init_1033 : decode cX12_init 1033 = .ok (.sipush 151, 3) := by decide +kernel
theorem dX12_init_1036 : decode cX12_init 1036 = .ok (.bipush 105, 2) := by decide +kernel
theorem dX12_init_1038 : decode cX12_init 1038 = .ok (.iastore, 1) := by decide +kernel
theorem dX12_init_1039 : decode cX12_init 1039 = .ok (.dup, 1) := by decide +kernel
theorem dX12_init_1040 : decode cX12_init 1040 = .ok (.sipush 152, 3) := by decide +kernel
theorem dX12_init_1043 : decode cX12_init 1043 = .ok (.bipush 110, 2) := by decide +kernel
theorem dX12_init_1045 : decode cX12_init 1045 = .ok (.iastore, 1) := by decide +kernel
theorem dX12_init_1046 : decode cX12_init 1046 = .ok (.dup, 1) := by decide +kernel
theorem dX12_init_1047 : decode cX12_init 1047 = .ok (.sipush 153, 3) := by decide +kernel
theorem dX12_init_1050 : decode cX12_init 1050 = .ok (.bipush 32, 2) := by decide +kernel
theorem dX12_init_1052 : decode cX12_init 1052 = .ok (.iastore, 1) := by decide +kernel
theorem dX12_init_1053 : decode cX12_init 1053 = .ok (.putfield 46, 3) := by decide +kernel
theorem dX12_init_1056 : decode cX12_init 1056 = .ok (.aload_n 0, 1) := by decide +kernel
theorem dX12_init_1057 : decode cX12_init 1057 = .ok (.iconst 2, 1) := by decide +kernel
theorem dX12_init_1058 : decode cX12_init 1058 = .ok (.newarray .int, 2) := by decide +kernel
theorem dX12_init_1060 : decode cX12_init 1060 = .ok (.putfield 49, 3) := by decide +kernel
theorem dX12_init_1063 : decode cX12_init 1063 = .ok (.aload_n 0, 1) := by decide +kernel
theorem dX12_init_1064 : decode cX12_init 1064 = .ok (.bipush 48, 2) := by decide +kernel
theorem dX12_init_1066 : decode cX12_init 1066 = .ok (.newarray .int, 2) := by decide +kernel
theorem dX12_init_1068 : decode cX12_init 1068 = .ok (.putfield 52, 3) := by decide +kernel
theorem dX12_init_1071 : decode cX12_init 1071 = .ok (.aload_n 0, 1) := by decide +kernel
theorem dX12_init_1072 : decode cX12_init 1072 = .ok (.bipush 48, 2) := by decide +kernel
theorem dX12_init_1074 : decode cX12_init 1074 = .ok (.newarray .int, 2) := by decide +kernel
theorem dX12_init_1076 : decode cX12_init 1076 = .ok (.putfield 55, 3) := by decide +kernel
theorem dX12_init_1079 : decode cX12_init 1079 = .ok (.aload_n 0, 1) := by decide +kernel
theorem dX12_init_1080 : decode cX12_init 1080 = .ok (.bipush 48, 2) := by decide +kernel
theorem dX12_init_1082 : decode cX12_init 1082 = .ok (.newarray .int, 2) := by decide +kernel
theorem dX12_init_1084 : decode cX12_init 1084 = .ok (.putfield 58, 3) := by decide +kernel
theorem dX12_init_1087 : decode cX12_init 1087 = .ok (.aload_n 0, 1) := by decide +kernel
theorem dX12_init_1088 : decode cX12_init 1088 = .ok (.sipush 1200, 3) := by decide +kernel
theorem dX12_init_1091 : decode cX12_init 1091 = .ok (.newarray .int, 2) := by decide +kernel
