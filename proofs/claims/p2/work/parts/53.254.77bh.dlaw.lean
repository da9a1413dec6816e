theorem dL_law_918 : decode code 918 = .ok (.iconst 2, 1) := by decide +kernel
theorem dL_law_919 : decode code 919 = .ok (.iadd, 1) := by decide +kernel
theorem dL_law_920 : decode code 920 = .ok (.iaload, 1) := by decide +kernel
theorem dL_law_921 : decode code 921 = .ok (.invokevirtual 117, 3) := by decide +kernel
theorem dL_law_924 : decode code 924 = .ok (.pop, 1) := by decide +kernel
theorem dL_law_925 : decode code 925 = .ok (.goto 111, 3) := by decide +kernel
theorem dL_law_928 : decode code 928 = .ok (.aload_n 1, 1) := by decide +kernel
theorem dL_law_929 : decode code 929 = .ok (.aload_n 0, 1) := by decide +kernel
theorem dL_law_930 : decode code 930 = .ok (.iload_n 3, 1) := by decide +kernel
theorem dL_law_931 : decode code 931 = .ok (.iconst 1, 1) := by decide +kernel
theorem dL_law_932 : decode code 932 = .ok (.iadd, 1) := by decide +kernel
theorem dL_law_933 : decode code 933 = .ok (.iaload, 1) := by decide +kernel
theorem dL_law_934 : decode code 934 = .ok (.aload_n 0, 1) := by decide +kernel
theorem dL_law_935 : decode code 935 = .ok (.iload_n 3, 1) := by decide +kernel
theorem dL_law_936 : decode code 936 = .ok (.iconst 2, 1) := by decide +kernel
theorem dL_law_937 : decode code 937 = .ok (.iadd, 1) := by decide +kernel
theorem dL_law_938 : decode code 938 = .ok (.iaload, 1) := by decide +kernel
theorem dL_law_939 : decode code 939 = .ok (.invokevirtual 118, 3) := by decide +kernel
theorem dL_law_942 : decode code 942 = .ok (.pop, 1) := by decide +kernel
theorem dL_law_943 : decode code 943 = .ok (.aload_n 2, 1) := by decide +kernel
theorem dL_law_944 : decode code 944 = .ok (.aload_n 0, 1) := by decide +kernel
theorem dL_law_945 : decode code 945 = .ok (.iload_n 3, 1) := by decide +kernel
theorem dL_law_946 : decode code 946 = .ok (.iconst 1, 1) := by decide +kernel
theorem dL_law_947 : decode code 947 = .ok (.iadd, 1) := by decide +kernel
theorem dL_law_948 : decode code 948 = .ok (.iaload, 1) := by decide +kernel
theorem dL_law_949 : decode code 949 = .ok (.aload_n 0, 1) := by decide +kernel
theorem dL_law_950 : decode code 950 = .ok (.iload_n 3, 1) := by decide +kernel
theorem dL_law_951 : decode code 951 = .ok (.iconst 2, 1) := by decide +kernel
theorem dL_law_952 : decode code 952 = .ok (.iadd, 1) := by decide +kernel
theorem dL_law_953 : decode code 953 = .ok (.iaload, 1) := by decide +kernel
theorem dL_law_954 : decode code 954 = .ok (.invokevirtual 121, 3) := by decide +kernel
theorem dL_law_957 : decode code 957 = .ok (.pop, 1) := by decide +kernel
theorem dL_law_958 : decode code 958 = .ok (.goto 78, 3) := by decide +kernel
theorem dL_law_961 : decode code 961 = .ok (.aload_n 1, 1) := by decide +kernel
theorem dL_law_962 : decode code 962 = .ok (.invokevirtual 122, 3) := by decide +kernel
theorem dL_law_965 : decode code 965 = .ok (.pop, 1) := by decide +kernel
theorem dL_law_966 : decode code 966 = .ok (.aload_n 2, 1) := by decide +kernel
theorem dL_law_967 : decode code 967 = .ok (.invokevirtual 126, 3) := by decide +kernel
theorem dL_law_970 : decode code 970 = .ok (.pop, 1) := by decide +kernel
theorem dL_law_971 : decode code 971 = .ok (.goto 65, 3) := by decide +kernel
theorem dL_law_974 : decode code 974 = .ok (.aload_n 1, 1) := by decide +kernel
theorem dL_law_975 : decode code 975 = .ok (.aload_n 0, 1) := by decide +kernel
theorem dL_law_976 : decode code 976 = .ok (.iload_n 3, 1) := by decide +kernel
theorem dL_law_977 : decode code 977 = .ok (.iconst 1, 1) := by decide +kernel
theorem dL_law_978 : decode code 978 = .ok (.iadd, 1) := by decide +kernel
theorem dL_law_979 : decode code 979 = .ok (.iaload, 1) := by decide +kernel
theorem dL_law_980 : decode code 980 = .ok (.ifCond .eq 7, 3) := by decide +kernel
theorem dL_law_983 : decode code 983 = .ok (.iconst 1, 1) := by decide +kernel
theorem dL_law_984 : decode code 984 = .ok (.goto 4, 3) := by decide +kernel
theorem dL_law_987 : decode code 987 = .ok (.iconst 0, 1) := by decide +kernel
theorem dL_law_988 : decode code 988 = .ok (.invokevirtual 127, 3) := by decide +kernel
theorem dL_law_991 : decode code 991 = .ok (.pop, 1) := by decide +kernel
theorem dL_law_992 : decode code 992 = .ok (.aload_n 2, 1) := by decide +kernel
theorem dL_law_993 : decode code 993 = .ok (.aload_n 0, 1) := by decide +kernel
theorem dL_law_994 : decode code 994 = .ok (.iload_n 3, 1) := by decide +kernel
theorem dL_law_995 : decode code 995 = .ok (.iconst 1, 1) := by decide +kernel
theorem dL_law_996 : decode code 996 = .ok (.iadd, 1) := by decide +kernel
theorem dL_law_997 : decode code 997 = .ok (.iaload, 1) := by decide +kernel
theorem dL_law_998 : decode code 998 = .ok (.ifCond .eq 7, 3) := by decide +kernel
theorem dL_law_1001 : decode code 1001 = .ok (.iconst 1, 1) := by decide +kernel
theorem dL_law_1002 : decode code 1002 = .ok (.goto 4, 3) := by decide +kernel
theorem dL_law_1005 : decode code 1005 = .ok (.iconst 0, 1) := by decide +kernel
theorem dL_law_1006 : decode code 1006 = .ok (.invokevirtual 131, 3) := by decide +kernel
theorem dL_law_1009 : decode code 1009 = .ok (.pop, 1) := by decide +kernel
theorem dL_law_1010 : decode code 1010 = .ok (.goto 26, 3) := by decide +kernel
theorem dL_law_1013 : decode code 1013 = .ok (.aload_n 1, 1) := by decide +kernel
theorem dL_law_1014 : decode code 1014 = .ok (.aload_n 0, 1) := by decide +kernel
theorem dL_law_1015 : decode code 1015 = .ok (.iload_n 3, 1) := by decide +kernel
theorem dL_law_1016 : decode code 1016 = .ok (.iconst 1, 1) := by decide +kernel
theorem dL_law_1017 : decode code 1017 = .ok (.iadd, 1) := by decide +kernel
theorem dL_law_1018 : decode code 1018 = .ok (.iaload, 1) := by decide +kernel
theorem dL_law_1019 : decode code 1019 = .ok (.invokevirtual 132, 3) := by decide +kernel
theorem dL_law_1022 : decode code 1022 = .ok (.pop, 1) := by decide +kernel
theorem dL_law_1023 : decode code 1023 = .ok (.aload_n 2, 1) := by decide +kernel
theorem dL_law_1024 : decode code 1024 = .ok (.aload_n 0, 1) := by decide +kernel
theorem dL_law_1025 : decode code 1025 = .ok (.iload_n 3, 1) := by decide +kernel
theorem dL_law_1026 : decode code 1026 = .ok (.iconst 1, 1) := by decide +kernel
theorem dL_law_1027 : decode code 1027 = .ok (.iadd, 1) := by decide +kernel
theorem dL_law_1028 : decode code 1028 = .ok (.iaload, 1) := by decide +kernel
theorem dL_law_1029 : decode code 1029 = .ok (.invokevirtual 135, 3) := by decide +kernel
theorem dL_law_1032 : decode code 1032 = .ok (.pop, 1) := by decide +kernel
theorem dL_law_1033 : decode code 1033 = .ok (.goto 3, 3) := by decide +kernel
theorem dL_law_1036 : decode code 1036 = .ok (.iinc 3 6, 3) := by decide +kernel
theorem dL_law_1039 : decode code 1039 = .ok (.goto (-1021), 3) := by decide +kernel
theorem dL_law_1042 : decode code 1042 = .ok (.iconst 1, 1) := by decide +kernel
theorem dL_law_1043 : decode code 1043 = .ok (.ireturn, 1) := by decide +kernel
