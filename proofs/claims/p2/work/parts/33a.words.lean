theorem dX12_emitsStep_0 : decode cX12_emitsStep 0 = .ok (.aload_n 0, 1) := by decide +kernel
theorem dX12_emitsStep_1 : decode cX12_emitsStep 1 = .ok (.getfield 80, 3) := by decide +kernel
theorem dX12_emitsStep_4 : decode cX12_emitsStep 4 = .ok (.aload_n 0, 1) := by decide +kernel
theorem dX12_emitsStep_5 : decode cX12_emitsStep 5 = .ok (.getfield 285, 3) := by decide +kernel
theorem dX12_emitsStep_8 : decode cX12_emitsStep 8 = .ok (.iload_n 1, 1) := by decide +kernel
theorem dX12_emitsStep_9 : decode cX12_emitsStep 9 = .ok (.iastore, 1) := by decide +kernel
theorem dX12_emitsStep_10 : decode cX12_emitsStep 10 = .ok (.aload_n 0, 1) := by decide +kernel
theorem dX12_emitsStep_11 : decode cX12_emitsStep 11 = .ok (.getfield 83, 3) := by decide +kernel
theorem dX12_emitsStep_14 : decode cX12_emitsStep 14 = .ok (.aload_n 0, 1) := by decide +kernel
theorem dX12_emitsStep_15 : decode cX12_emitsStep 15 = .ok (.getfield 285, 3) := by decide +kernel
theorem dX12_emitsStep_18 : decode cX12_emitsStep 18 = .ok (.iload_n 2, 1) := by decide +kernel
theorem dX12_emitsStep_19 : decode cX12_emitsStep 19 = .ok (.iastore, 1) := by decide +kernel
theorem dX12_emitsStep_20 : decode cX12_emitsStep 20 = .ok (.aload_n 0, 1) := by decide +kernel
theorem dX12_emitsStep_21 : decode cX12_emitsStep 21 = .ok (.aload_n 0, 1) := by decide +kernel
theorem dX12_emitsStep_22 : decode cX12_emitsStep 22 = .ok (.getfield 285, 3) := by decide +kernel
theorem dX12_emitsStep_25 : decode cX12_emitsStep 25 = .ok (.iconst 1, 1) := by decide +kernel
theorem dX12_emitsStep_26 : decode cX12_emitsStep 26 = .ok (.iadd, 1) := by decide +kernel
theorem dX12_emitsStep_27 : decode cX12_emitsStep 27 = .ok (.putfield 285, 3) := by decide +kernel
theorem dX12_emitsStep_30 : decode cX12_emitsStep 30 = .ok (.return_, 1) := by decide +kernel
theorem dX12_isStep_0 : decode cX12_isStep 0 = .ok (.aload_n 0, 1) := by decide +kernel
theorem dX12_isStep_1 : decode cX12_isStep 1 = .ok (.bipush 28, 2) := by decide +kernel
theorem dX12_isStep_3 : decode cX12_isStep 3 = .ok (.invokevirtual 251, 3) := by decide +kernel
theorem dX12_isStep_6 : decode cX12_isStep 6 = .ok (.ifCond .ne 12, 3) := by decide +kernel
theorem dX12_isStep_9 : decode cX12_isStep 9 = .ok (.aload_n 0, 1) := by decide +kernel
theorem dX12_isStep_10 : decode cX12_isStep 10 = .ok (.bipush 29, 2) := by decide +kernel
theorem dX12_isStep_12 : decode cX12_isStep 12 = .ok (.invokevirtual 251, 3) := by decide +kernel
theorem dX12_isStep_15 : decode cX12_isStep 15 = .ok (.ifCond .eq 7, 3) := by decide +kernel
theorem dX12_isStep_18 : decode cX12_isStep 18 = .ok (.iconst 1, 1) := by decide +kernel
theorem dX12_isStep_19 : decode cX12_isStep 19 = .ok (.goto 4, 3) := by decide +kernel
theorem dX12_isStep_22 : decode cX12_isStep 22 = .ok (.iconst 0, 1) := by decide +kernel
theorem dX12_isStep_23 : decode cX12_isStep 23 = .ok (.ireturn, 1) := by decide +kernel
theorem dX12_readAgain_0 : decode cX12_readAgain 0 = .ok (.aload_n 0, 1) := by decide +kernel
theorem dX12_readAgain_1 : decode cX12_readAgain 1 = .ok (.getfield 248, 3) := by decide +kernel
theorem dX12_readAgain_4 : decode cX12_readAgain 4 = .ok (.iconst 4, 1) := by decide +kernel
theorem dX12_readAgain_5 : decode cX12_readAgain 5 = .ok (.if_icmp .ne 9, 3) := by decide +kernel
theorem dX12_readAgain_8 : decode cX12_readAgain 8 = .ok (.aload_n 0, 1) := by decide +kernel
theorem dX12_readAgain_9 : decode cX12_readAgain 9 = .ok (.iconst 3, 1) := by decide +kernel
theorem dX12_readAgain_10 : decode cX12_readAgain 10 = .ok (.invokevirtual 222, 3) := by decide +kernel
theorem dX12_readAgain_13 : decode cX12_readAgain 13 = .ok (.ireturn, 1) := by decide +kernel
theorem dX12_readAgain_14 : decode cX12_readAgain 14 = .ok (.aload_n 0, 1) := by decide +kernel
theorem dX12_readAgain_15 : decode cX12_readAgain 15 = .ok (.aload_n 0, 1) := by decide +kernel
theorem dX12_readAgain_16 : decode cX12_readAgain 16 = .ok (.getfield 248, 3) := by decide +kernel
theorem dX12_readAgain_19 : decode cX12_readAgain 19 = .ok (.iconst 1, 1) := by decide +kernel
theorem dX12_readAgain_20 : decode cX12_readAgain 20 = .ok (.iadd, 1) := by decide +kernel
theorem dX12_readAgain_21 : decode cX12_readAgain 21 = .ok (.putfield 248, 3) := by decide +kernel
theorem dX12_readAgain_24 : decode cX12_readAgain 24 = .ok (.aload_n 0, 1) := by decide +kernel
theorem dX12_readAgain_25 : decode cX12_readAgain 25 = .ok (.invokevirtual 229, 3) := by decide +kernel
theorem dX12_readAgain_28 : decode cX12_readAgain 28 = .ok (.aload_n 0, 1) := by decide +kernel
theorem dX12_readAgain_29 : decode cX12_readAgain 29 = .ok (.iconst 1, 1) := by decide +kernel
theorem dX12_readAgain_30 : decode cX12_readAgain 30 = .ok (.bipush 9, 2) := by decide +kernel
theorem dX12_readAgain_32 : decode cX12_readAgain 32 = .ok (.invokevirtual 270, 3) := by decide +kernel
theorem dX12_readAgain_35 : decode cX12_readAgain 35 = .ok (.istore_n 1, 1) := by decide +kernel
theorem dX12_readAgain_36 : decode cX12_readAgain 36 = .ok (.iload_n 1, 1) := by decide +kernel
theorem dX12_readAgain_37 : decode cX12_readAgain 37 = .ok (.iconst (-1), 1) := by decide +kernel
theorem dX12_readAgain_38 : decode cX12_readAgain 38 = .ok (.if_icmp .eq 13, 3) := by decide +kernel
theorem dX12_readAgain_41 : decode cX12_readAgain 41 = .ok (.aload_n 0, 1) := by decide +kernel
theorem dX12_readAgain_42 : decode cX12_readAgain 42 = .ok (.bipush 40, 2) := by decide +kernel
theorem dX12_readAgain_44 : decode cX12_readAgain 44 = .ok (.invokevirtual 276, 3) := by decide +kernel
theorem dX12_readAgain_47 : decode cX12_readAgain 47 = .ok (.iconst (-1), 1) := by decide +kernel
theorem dX12_readAgain_48 : decode cX12_readAgain 48 = .ok (.if_icmp .ne 5, 3) := by decide +kernel
theorem dX12_readAgain_51 : decode cX12_readAgain 51 = .ok (.iconst (-1), 1) := by decide +kernel
theorem dX12_readAgain_52 : decode cX12_readAgain 52 = .ok (.ireturn, 1) := by decide +kernel
theorem dX12_readAgain_53 : decode cX12_readAgain 53 = .ok (.aload_n 0, 1) := by decide +kernel
theorem dX12_readAgain_54 : decode cX12_readAgain 54 = .ok (.iconst 2, 1) := by decide +kernel
theorem dX12_readAgain_55 : decode cX12_readAgain 55 = .ok (.iload_n 1, 1) := by decide +kernel
theorem dX12_readAgain_56 : decode cX12_readAgain 56 = .ok (.invokevirtual 288, 3) := by decide +kernel
theorem dX12_readAgain_59 : decode cX12_readAgain 59 = .ok (.iconst 0, 1) := by decide +kernel
theorem dX12_readAgain_60 : decode cX12_readAgain 60 = .ok (.ireturn, 1) := by decide +kernel
theorem dX12_readAgainEnd_0 : decode cX12_readAgainEnd 0 = .ok (.aload_n 0, 1) := by decide +kernel
theorem dX12_readAgainEnd_1 : decode cX12_readAgainEnd 1 = .ok (.aload_n 0, 1) := by decide +kernel
theorem dX12_readAgainEnd_2 : decode cX12_readAgainEnd 2 = .ok (.getfield 248, 3) := by decide +kernel
theorem dX12_readAgainEnd_5 : decode cX12_readAgainEnd 5 = .ok (.iconst 1, 1) := by decide +kernel
theorem dX12_readAgainEnd_6 : decode cX12_readAgainEnd 6 = .ok (.isub, 1) := by decide +kernel
theorem dX12_readAgainEnd_7 : decode cX12_readAgainEnd 7 = .ok (.putfield 248, 3) := by decide +kernel
theorem dX12_readAgainEnd_10 : decode cX12_readAgainEnd 10 = .ok (.aload_n 0, 1) := by decide +kernel
theorem dX12_readAgainEnd_11 : decode cX12_readAgainEnd 11 = .ok (.invokevirtual 229, 3) := by decide +kernel
theorem dX12_readAgainEnd_14 : decode cX12_readAgainEnd 14 = .ok (.aload_n 0, 1) := by decide +kernel
theorem dX12_readAgainEnd_15 : decode cX12_readAgainEnd 15 = .ok (.iconst 3, 1) := by decide +kernel
theorem dX12_readAgainEnd_16 : decode cX12_readAgainEnd 16 = .ok (.iconst 0, 1) := by decide +kernel
theorem dX12_readAgainEnd_17 : decode cX12_readAgainEnd 17 = .ok (.invokevirtual 288, 3) := by decide +kernel
theorem dX12_readAgainEnd_20 : decode cX12_readAgainEnd 20 = .ok (.iconst 0, 1) := by decide +kernel
theorem dX12_readAgainEnd_21 : decode cX12_readAgainEnd 21 = .ok (.ireturn, 1) := by decide +kernel
theorem dX12_readMark_0 : decode cX12_readMark 0 = .ok (.aload_n 0, 1) := by decide +kernel
theorem dX12_readMark_1 : decode cX12_readMark 1 = .ok (.iload_n 1, 1) := by decide +kernel
theorem dX12_readMark_2 : decode cX12_readMark 2 = .ok (.invokevirtual 236, 3) := by decide +kernel
theorem dX12_readMark_5 : decode cX12_readMark 5 = .ok (.ifCond .ne 9, 3) := by decide +kernel
theorem dX12_readMark_8 : decode cX12_readMark 8 = .ok (.aload_n 0, 1) := by decide +kernel
theorem dX12_readMark_9 : decode cX12_readMark 9 = .ok (.iconst 1, 1) := by decide +kernel
theorem dX12_readMark_10 : decode cX12_readMark 10 = .ok (.invokevirtual 222, 3) := by decide +kernel
theorem dX12_readMark_13 : decode cX12_readMark 13 = .ok (.ireturn, 1) := by decide +kernel
theorem dX12_readMark_14 : decode cX12_readMark 14 = .ok (.aload_n 0, 1) := by decide +kernel
theorem dX12_readMark_15 : decode cX12_readMark 15 = .ok (.invokevirtual 229, 3) := by decide +kernel
theorem dX12_readMark_18 : decode cX12_readMark 18 = .ok (.iconst 0, 1) := by decide +kernel
theorem dX12_readMark_19 : decode cX12_readMark 19 = .ok (.ireturn, 1) := by decide +kernel
theorem dX12_readNeed_0 : decode cX12_readNeed 0 = .ok (.aload_n 0, 1) := by decide +kernel
theorem dX12_readNeed_1 : decode cX12_readNeed 1 = .ok (.getfield 188, 3) := by decide +kernel
theorem dX12_readNeed_4 : decode cX12_readNeed 4 = .ok (.iconst 2, 1) := by decide +kernel
theorem dX12_readNeed_5 : decode cX12_readNeed 5 = .ok (.if_icmp .ne 18, 3) := by decide +kernel
theorem dX12_readNeed_8 : decode cX12_readNeed 8 = .ok (.aload_n 0, 1) := by decide +kernel
theorem dX12_readNeed_9 : decode cX12_readNeed 9 = .ok (.aload_n 0, 1) := by decide +kernel
theorem dX12_readNeed_10 : decode cX12_readNeed 10 = .ok (.getfield 191, 3) := by decide +kernel
theorem dX12_readNeed_13 : decode cX12_readNeed 13 = .ok (.bipush 21, 2) := by decide +kernel
theorem dX12_readNeed_15 : decode cX12_readNeed 15 = .ok (.bipush 24, 2) := by decide +kernel
theorem dX12_readNeed_17 : decode cX12_readNeed 17 = .ok (.invokevirtual 151, 3) := by decide +kernel
theorem dX12_readNeed_20 : decode cX12_readNeed 20 = .ok (.ifCond .ne 9, 3) := by decide +kernel
theorem dX12_readNeed_23 : decode cX12_readNeed 23 = .ok (.aload_n 0, 1) := by decide +kernel
theorem dX12_readNeed_24 : decode cX12_readNeed 24 = .ok (.iconst 1, 1) := by decide +kernel
theorem dX12_readNeed_25 : decode cX12_readNeed 25 = .ok (.invokevirtual 222, 3) := by decide +kernel
theorem dX12_readNeed_28 : decode cX12_readNeed 28 = .ok (.ireturn, 1) := by decide +kernel
theorem dX12_readNeed_29 : decode cX12_readNeed 29 = .ok (.aload_n 0, 1) := by decide +kernel
theorem dX12_readNeed_30 : decode cX12_readNeed 30 = .ok (.getfield 77, 3) := by decide +kernel
theorem dX12_readNeed_33 : decode cX12_readNeed 33 = .ok (.iload_n 1, 1) := by decide +kernel
theorem dX12_readNeed_34 : decode cX12_readNeed 34 = .ok (.iconst 0, 1) := by decide +kernel
theorem dX12_readNeed_35 : decode cX12_readNeed 35 = .ok (.iadd, 1) := by decide +kernel
theorem dX12_readNeed_36 : decode cX12_readNeed 36 = .ok (.aload_n 0, 1) := by decide +kernel
theorem dX12_readNeed_37 : decode cX12_readNeed 37 = .ok (.getfield 191, 3) := by decide +kernel
theorem dX12_readNeed_40 : decode cX12_readNeed 40 = .ok (.bipush 21, 2) := by decide +kernel
theorem dX12_readNeed_42 : decode cX12_readNeed 42 = .ok (.isub, 1) := by decide +kernel
theorem dX12_readNeed_43 : decode cX12_readNeed 43 = .ok (.iastore, 1) := by decide +kernel
theorem dX12_readNeed_44 : decode cX12_readNeed 44 = .ok (.aload_n 0, 1) := by decide +kernel
theorem dX12_readNeed_45 : decode cX12_readNeed 45 = .ok (.invokevirtual 229, 3) := by decide +kernel
theorem dX12_readNeed_48 : decode cX12_readNeed 48 = .ok (.aload_n 0, 1) := by decide +kernel
theorem dX12_readNeed_49 : decode cX12_readNeed 49 = .ok (.bipush 25, 2) := by decide +kernel
theorem dX12_readNeed_51 : decode cX12_readNeed 51 = .ok (.invokevirtual 273, 3) := by decide +kernel
theorem dX12_readNeed_54 : decode cX12_readNeed 54 = .ok (.iconst (-1), 1) := by decide +kernel
theorem dX12_readNeed_55 : decode cX12_readNeed 55 = .ok (.if_icmp .ne 5, 3) := by decide +kernel
theorem dX12_readNeed_58 : decode cX12_readNeed 58 = .ok (.iconst (-1), 1) := by decide +kernel
theorem dX12_readNeed_59 : decode cX12_readNeed 59 = .ok (.ireturn, 1) := by decide +kernel
theorem dX12_readNeed_60 : decode cX12_readNeed 60 = .ok (.aload_n 0, 1) := by decide +kernel
theorem dX12_readNeed_61 : decode cX12_readNeed 61 = .ok (.getfield 77, 3) := by decide +kernel
theorem dX12_readNeed_64 : decode cX12_readNeed 64 = .ok (.iload_n 1, 1) := by decide +kernel
theorem dX12_readNeed_65 : decode cX12_readNeed 65 = .ok (.iconst 1, 1) := by decide +kernel
theorem dX12_readNeed_66 : decode cX12_readNeed 66 = .ok (.iadd, 1) := by decide +kernel
theorem dX12_readNeed_67 : decode cX12_readNeed 67 = .ok (.aload_n 0, 1) := by decide +kernel
theorem dX12_readNeed_68 : decode cX12_readNeed 68 = .ok (.iconst 0, 1) := by decide +kernel
theorem dX12_readNeed_69 : decode cX12_readNeed 69 = .ok (.aload_n 0, 1) := by decide +kernel
theorem dX12_readNeed_70 : decode cX12_readNeed 70 = .ok (.getfield 148, 3) := by decide +kernel
theorem dX12_readNeed_73 : decode cX12_readNeed 73 = .ok (.iconst 1, 1) := by decide +kernel
theorem dX12_readNeed_74 : decode cX12_readNeed 74 = .ok (.isub, 1) := by decide +kernel
theorem dX12_readNeed_75 : decode cX12_readNeed 75 = .ok (.invokevirtual 270, 3) := by decide +kernel
theorem dX12_readNeed_78 : decode cX12_readNeed 78 = .ok (.iastore, 1) := by decide +kernel
theorem dX12_readNeed_79 : decode cX12_readNeed 79 = .ok (.aload_n 0, 1) := by decide +kernel
theorem dX12_readNeed_80 : decode cX12_readNeed 80 = .ok (.getfield 77, 3) := by decide +kernel
theorem dX12_readNeed_83 : decode cX12_readNeed 83 = .ok (.iload_n 1, 1) := by decide +kernel
theorem dX12_readNeed_84 : decode cX12_readNeed 84 = .ok (.iconst 1, 1) := by decide +kernel
theorem dX12_readNeed_85 : decode cX12_readNeed 85 = .ok (.iadd, 1) := by decide +kernel
theorem dX12_readNeed_86 : decode cX12_readNeed 86 = .ok (.iaload, 1) := by decide +kernel
theorem dX12_readNeed_87 : decode cX12_readNeed 87 = .ok (.iconst (-1), 1) := by decide +kernel
theorem dX12_readNeed_88 : decode cX12_readNeed 88 = .ok (.if_icmp .eq 13, 3) := by decide +kernel
theorem dX12_readNeed_91 : decode cX12_readNeed 91 = .ok (.aload_n 0, 1) := by decide +kernel
theorem dX12_readNeed_92 : decode cX12_readNeed 92 = .ok (.bipush 26, 2) := by decide +kernel
theorem dX12_readNeed_94 : decode cX12_readNeed 94 = .ok (.invokevirtual 273, 3) := by decide +kernel
theorem dX12_readNeed_97 : decode cX12_readNeed 97 = .ok (.iconst (-1), 1) := by decide +kernel
theorem dX12_readNeed_98 : decode cX12_readNeed 98 = .ok (.if_icmp .ne 5, 3) := by decide +kernel
theorem dX12_readNeed_101 : decode cX12_readNeed 101 = .ok (.iconst (-1), 1) := by decide +kernel
theorem dX12_readNeed_102 : decode cX12_readNeed 102 = .ok (.ireturn, 1) := by decide +kernel
theorem dX12_readNeed_103 : decode cX12_readNeed 103 = .ok (.aload_n 0, 1) := by decide +kernel
theorem dX12_readNeed_104 : decode cX12_readNeed 104 = .ok (.getfield 77, 3) := by decide +kernel
theorem dX12_readNeed_107 : decode cX12_readNeed 107 = .ok (.iload_n 1, 1) := by decide +kernel
theorem dX12_readNeed_108 : decode cX12_readNeed 108 = .ok (.iconst 2, 1) := by decide +kernel
theorem dX12_readNeed_109 : decode cX12_readNeed 109 = .ok (.iadd, 1) := by decide +kernel
theorem dX12_readNeed_110 : decode cX12_readNeed 110 = .ok (.aload_n 0, 1) := by decide +kernel
theorem dX12_readNeed_111 : decode cX12_readNeed 111 = .ok (.iconst 0, 1) := by decide +kernel
theorem dX12_readNeed_112 : decode cX12_readNeed 112 = .ok (.sipush 9999, 3) := by decide +kernel
theorem dX12_readNeed_115 : decode cX12_readNeed 115 = .ok (.invokevirtual 270, 3) := by decide +kernel
theorem dX12_readNeed_118 : decode cX12_readNeed 118 = .ok (.iastore, 1) := by decide +kernel
theorem dX12_readNeed_119 : decode cX12_readNeed 119 = .ok (.aload_n 0, 1) := by decide +kernel
theorem dX12_readNeed_120 : decode cX12_readNeed 120 = .ok (.getfield 77, 3) := by decide +kernel
theorem dX12_readNeed_123 : decode cX12_readNeed 123 = .ok (.iload_n 1, 1) := by decide +kernel
theorem dX12_readNeed_124 : decode cX12_readNeed 124 = .ok (.iconst 2, 1) := by decide +kernel
theorem dX12_readNeed_125 : decode cX12_readNeed 125 = .ok (.iadd, 1) := by decide +kernel
theorem dX12_readNeed_126 : decode cX12_readNeed 126 = .ok (.iaload, 1) := by decide +kernel
theorem dX12_readNeed_127 : decode cX12_readNeed 127 = .ok (.iconst (-1), 1) := by decide +kernel
theorem dX12_readNeed_128 : decode cX12_readNeed 128 = .ok (.if_icmp .eq 13, 3) := by decide +kernel
theorem dX12_readNeed_131 : decode cX12_readNeed 131 = .ok (.aload_n 0, 1) := by decide +kernel
theorem dX12_readNeed_132 : decode cX12_readNeed 132 = .ok (.bipush 17, 2) := by decide +kernel
theorem dX12_readNeed_134 : decode cX12_readNeed 134 = .ok (.invokevirtual 273, 3) := by decide +kernel
theorem dX12_readNeed_137 : decode cX12_readNeed 137 = .ok (.iconst (-1), 1) := by decide +kernel
theorem dX12_readNeed_138 : decode cX12_readNeed 138 = .ok (.if_icmp .ne 5, 3) := by decide +kernel
theorem dX12_readNeed_141 : decode cX12_readNeed 141 = .ok (.iconst (-1), 1) := by decide +kernel
theorem dX12_readNeed_142 : decode cX12_readNeed 142 = .ok (.ireturn, 1) := by decide +kernel
theorem dX12_readNeed_143 : decode cX12_readNeed 143 = .ok (.aload_n 0, 1) := by decide +kernel
theorem dX12_readNeed_144 : decode cX12_readNeed 144 = .ok (.getfield 77, 3) := by decide +kernel
theorem dX12_readNeed_147 : decode cX12_readNeed 147 = .ok (.iload_n 1, 1) := by decide +kernel
theorem dX12_readNeed_148 : decode cX12_readNeed 148 = .ok (.iconst 3, 1) := by decide +kernel
theorem dX12_readNeed_149 : decode cX12_readNeed 149 = .ok (.iadd, 1) := by decide +kernel
theorem dX12_readNeed_150 : decode cX12_readNeed 150 = .ok (.aload_n 0, 1) := by decide +kernel
theorem dX12_readNeed_151 : decode cX12_readNeed 151 = .ok (.aload_n 0, 1) := by decide +kernel
theorem dX12_readNeed_152 : decode cX12_readNeed 152 = .ok (.getfield 77, 3) := by decide +kernel
theorem dX12_readNeed_155 : decode cX12_readNeed 155 = .ok (.iload_n 1, 1) := by decide +kernel
theorem dX12_readNeed_156 : decode cX12_readNeed 156 = .ok (.iconst 2, 1) := by decide +kernel
theorem dX12_readNeed_157 : decode cX12_readNeed 157 = .ok (.iadd, 1) := by decide +kernel
theorem dX12_readNeed_158 : decode cX12_readNeed 158 = .ok (.iaload, 1) := by decide +kernel
theorem dX12_readNeed_159 : decode cX12_readNeed 159 = .ok (.sipush 9999, 3) := by decide +kernel
theorem dX12_readNeed_162 : decode cX12_readNeed 162 = .ok (.invokevirtual 270, 3) := by decide +kernel
theorem dX12_readNeed_165 : decode cX12_readNeed 165 = .ok (.iastore, 1) := by decide +kernel
theorem dX12_readNeed_166 : decode cX12_readNeed 166 = .ok (.aload_n 0, 1) := by decide +kernel
theorem dX12_readNeed_167 : decode cX12_readNeed 167 = .ok (.getfield 77, 3) := by decide +kernel
theorem dX12_readNeed_170 : decode cX12_readNeed 170 = .ok (.iload_n 1, 1) := by decide +kernel
theorem dX12_readNeed_171 : decode cX12_readNeed 171 = .ok (.iconst 3, 1) := by decide +kernel
theorem dX12_readNeed_172 : decode cX12_readNeed 172 = .ok (.iadd, 1) := by decide +kernel
theorem dX12_readNeed_173 : decode cX12_readNeed 173 = .ok (.iaload, 1) := by decide +kernel
theorem dX12_readNeed_174 : decode cX12_readNeed 174 = .ok (.iconst (-1), 1) := by decide +kernel
theorem dX12_readNeed_175 : decode cX12_readNeed 175 = .ok (.if_icmp .eq 13, 3) := by decide +kernel
theorem dX12_readNeed_178 : decode cX12_readNeed 178 = .ok (.aload_n 0, 1) := by decide +kernel
theorem dX12_readNeed_179 : decode cX12_readNeed 179 = .ok (.bipush 27, 2) := by decide +kernel
theorem dX12_readNeed_181 : decode cX12_readNeed 181 = .ok (.invokevirtual 273, 3) := by decide +kernel
theorem dX12_readNeed_184 : decode cX12_readNeed 184 = .ok (.iconst (-1), 1) := by decide +kernel
theorem dX12_readNeed_185 : decode cX12_readNeed 185 = .ok (.if_icmp .ne 5, 3) := by decide +kernel
theorem dX12_readNeed_188 : decode cX12_readNeed 188 = .ok (.iconst (-1), 1) := by decide +kernel
theorem dX12_readNeed_189 : decode cX12_readNeed 189 = .ok (.ireturn, 1) := by decide +kernel
theorem dX12_readNeed_190 : decode cX12_readNeed 190 = .ok (.aload_n 0, 1) := by decide +kernel
theorem dX12_readNeed_191 : decode cX12_readNeed 191 = .ok (.getfield 77, 3) := by decide +kernel
theorem dX12_readNeed_194 : decode cX12_readNeed 194 = .ok (.iload_n 1, 1) := by decide +kernel
theorem dX12_readNeed_195 : decode cX12_readNeed 195 = .ok (.iconst 4, 1) := by decide +kernel
theorem dX12_readNeed_196 : decode cX12_readNeed 196 = .ok (.iadd, 1) := by decide +kernel
theorem dX12_readNeed_197 : decode cX12_readNeed 197 = .ok (.aload_n 0, 1) := by decide +kernel
theorem dX12_readNeed_198 : decode cX12_readNeed 198 = .ok (.iconst 1, 1) := by decide +kernel
theorem dX12_readNeed_199 : decode cX12_readNeed 199 = .ok (.bipush 99, 2) := by decide +kernel
theorem dX12_readNeed_201 : decode cX12_readNeed 201 = .ok (.invokevirtual 270, 3) := by decide +kernel
theorem dX12_readNeed_204 : decode cX12_readNeed 204 = .ok (.iastore, 1) := by decide +kernel
theorem dX12_readNeed_205 : decode cX12_readNeed 205 = .ok (.aload_n 0, 1) := by decide +kernel
theorem dX12_readNeed_206 : decode cX12_readNeed 206 = .ok (.getfield 77, 3) := by decide +kernel
theorem dX12_readNeed_209 : decode cX12_readNeed 209 = .ok (.iload_n 1, 1) := by decide +kernel
theorem dX12_readNeed_210 : decode cX12_readNeed 210 = .ok (.iconst 4, 1) := by decide +kernel
theorem dX12_readNeed_211 : decode cX12_readNeed 211 = .ok (.iadd, 1) := by decide +kernel
theorem dX12_readNeed_212 : decode cX12_readNeed 212 = .ok (.iaload, 1) := by decide +kernel
theorem dX12_readNeed_213 : decode cX12_readNeed 213 = .ok (.iconst (-1), 1) := by decide +kernel
theorem dX12_readNeed_214 : decode cX12_readNeed 214 = .ok (.if_icmp .ne 7, 3) := by decide +kernel
theorem dX12_readNeed_217 : decode cX12_readNeed 217 = .ok (.iconst (-1), 1) := by decide +kernel
theorem dX12_readNeed_218 : decode cX12_readNeed 218 = .ok (.goto 9, 3) := by decide +kernel
theorem dX12_readNeed_221 : decode cX12_readNeed 221 = .ok (.aload_n 0, 1) := by decide +kernel
theorem dX12_readNeed_222 : decode cX12_readNeed 222 = .ok (.bipush 59, 2) := by decide +kernel
theorem dX12_readNeed_224 : decode cX12_readNeed 224 = .ok (.invokevirtual 276, 3) := by decide +kernel
theorem dX12_readNeed_227 : decode cX12_readNeed 227 = .ok (.ireturn, 1) := by decide +kernel
theorem dX12_readNeeds_0 : decode cX12_readNeeds 0 = .ok (.iconst 0, 1) := by decide +kernel
theorem dX12_readNeeds_1 : decode cX12_readNeeds 1 = .ok (.istore_n 1, 1) := by decide +kernel
theorem dX12_readNeeds_2 : decode cX12_readNeeds 2 = .ok (.aload_n 0, 1) := by decide +kernel
theorem dX12_readNeeds_3 : decode cX12_readNeeds 3 = .ok (.bipush 20, 2) := by decide +kernel
theorem dX12_readNeeds_5 : decode cX12_readNeeds 5 = .ok (.invokevirtual 251, 3) := by decide +kernel
theorem dX12_readNeeds_8 : decode cX12_readNeeds 8 = .ok (.ifCond .eq 42, 3) := by decide +kernel
theorem dX12_readNeeds_11 : decode cX12_readNeeds 11 = .ok (.iload_n 1, 1) := by decide +kernel
theorem dX12_readNeeds_12 : decode cX12_readNeeds 12 = .ok (.bipush 10, 2) := by decide +kernel
theorem dX12_readNeeds_14 : decode cX12_readNeeds 14 = .ok (.if_icmp .ne 9, 3) := by decide +kernel
theorem dX12_readNeeds_17 : decode cX12_readNeeds 17 = .ok (.aload_n 0, 1) := by decide +kernel
theorem dX12_readNeeds_18 : decode cX12_readNeeds 18 = .ok (.iconst 3, 1) := by decide +kernel
theorem dX12_readNeeds_19 : decode cX12_readNeeds 19 = .ok (.invokevirtual 222, 3) := by decide +kernel
theorem dX12_readNeeds_22 : decode cX12_readNeeds 22 = .ok (.ireturn, 1) := by decide +kernel
theorem dX12_readNeeds_23 : decode cX12_readNeeds 23 = .ok (.aload_n 0, 1) := by decide +kernel
theorem dX12_readNeeds_24 : decode cX12_readNeeds 24 = .ok (.invokevirtual 229, 3) := by decide +kernel
theorem dX12_readNeeds_27 : decode cX12_readNeeds 27 = .ok (.aload_n 0, 1) := by decide +kernel
theorem dX12_readNeeds_28 : decode cX12_readNeeds 28 = .ok (.bipush 50, 2) := by decide +kernel
theorem dX12_readNeeds_30 : decode cX12_readNeeds 30 = .ok (.iconst 5, 1) := by decide +kernel
theorem dX12_readNeeds_31 : decode cX12_readNeeds 31 = .ok (.iload_n 1, 1) := by decide +kernel
theorem dX12_readNeeds_32 : decode cX12_readNeeds 32 = .ok (.imul, 1) := by decide +kernel
theorem dX12_readNeeds_33 : decode cX12_readNeeds 33 = .ok (.iadd, 1) := by decide +kernel
theorem dX12_readNeeds_34 : decode cX12_readNeeds 34 = .ok (.invokevirtual 282, 3) := by decide +kernel
theorem dX12_readNeeds_37 : decode cX12_readNeeds 37 = .ok (.iconst (-1), 1) := by decide +kernel
theorem dX12_readNeeds_38 : decode cX12_readNeeds 38 = .ok (.if_icmp .ne 5, 3) := by decide +kernel
theorem dX12_readNeeds_41 : decode cX12_readNeeds 41 = .ok (.iconst (-1), 1) := by decide +kernel
theorem dX12_readNeeds_42 : decode cX12_readNeeds 42 = .ok (.ireturn, 1) := by decide +kernel
theorem dX12_readNeeds_43 : decode cX12_readNeeds 43 = .ok (.iload_n 1, 1) := by decide +kernel
theorem dX12_readNeeds_44 : decode cX12_readNeeds 44 = .ok (.iconst 1, 1) := by decide +kernel
theorem dX12_readNeeds_45 : decode cX12_readNeeds 45 = .ok (.iadd, 1) := by decide +kernel
theorem dX12_readNeeds_46 : decode cX12_readNeeds 46 = .ok (.istore_n 1, 1) := by decide +kernel
theorem dX12_readNeeds_47 : decode cX12_readNeeds 47 = .ok (.goto (-45), 3) := by decide +kernel
theorem dX12_readNeeds_50 : decode cX12_readNeeds 50 = .ok (.aload_n 0, 1) := by decide +kernel
theorem dX12_readNeeds_51 : decode cX12_readNeeds 51 = .ok (.getfield 188, 3) := by decide +kernel
theorem dX12_readNeeds_54 : decode cX12_readNeeds 54 = .ok (.ifCond .ne 7, 3) := by decide +kernel
theorem dX12_readNeeds_57 : decode cX12_readNeeds 57 = .ok (.iload_n 1, 1) := by decide +kernel
theorem dX12_readNeeds_58 : decode cX12_readNeeds 58 = .ok (.goto 8, 3) := by decide +kernel
theorem dX12_readNeeds_61 : decode cX12_readNeeds 61 = .ok (.aload_n 0, 1) := by decide +kernel
theorem dX12_readNeeds_62 : decode cX12_readNeeds 62 = .ok (.iconst 1, 1) := by decide +kernel
theorem dX12_readNeeds_63 : decode cX12_readNeeds 63 = .ok (.invokevirtual 222, 3) := by decide +kernel
theorem dX12_readNeeds_66 : decode cX12_readNeeds 66 = .ok (.ireturn, 1) := by decide +kernel
theorem dX12_readNumber_0 : decode cX12_readNumber 0 = .ok (.aload_n 0, 1) := by decide +kernel
theorem dX12_readNumber_1 : decode cX12_readNumber 1 = .ok (.getfield 188, 3) := by decide +kernel
theorem dX12_readNumber_4 : decode cX12_readNumber 4 = .ok (.iconst 3, 1) := by decide +kernel
theorem dX12_readNumber_5 : decode cX12_readNumber 5 = .ok (.if_icmp .eq 9, 3) := by decide +kernel
theorem dX12_readNumber_8 : decode cX12_readNumber 8 = .ok (.aload_n 0, 1) := by decide +kernel
theorem dX12_readNumber_9 : decode cX12_readNumber 9 = .ok (.iconst 1, 1) := by decide +kernel
theorem dX12_readNumber_10 : decode cX12_readNumber 10 = .ok (.invokevirtual 222, 3) := by decide +kernel
theorem dX12_readNumber_13 : decode cX12_readNumber 13 = .ok (.ireturn, 1) := by decide +kernel
theorem dX12_readNumber_14 : decode cX12_readNumber 14 = .ok (.aload_n 0, 1) := by decide +kernel
theorem dX12_readNumber_15 : decode cX12_readNumber 15 = .ok (.aload_n 0, 1) := by decide +kernel
theorem dX12_readNumber_16 : decode cX12_readNumber 16 = .ok (.getfield 191, 3) := by decide +kernel
theorem dX12_readNumber_19 : decode cX12_readNumber 19 = .ok (.iload_n 1, 1) := by decide +kernel
theorem dX12_readNumber_20 : decode cX12_readNumber 20 = .ok (.iload_n 2, 1) := by decide +kernel
theorem dX12_readNumber_21 : decode cX12_readNumber 21 = .ok (.invokevirtual 151, 3) := by decide +kernel
theorem dX12_readNumber_24 : decode cX12_readNumber 24 = .ok (.ifCond .ne 9, 3) := by decide +kernel
theorem dX12_readNumber_27 : decode cX12_readNumber 27 = .ok (.aload_n 0, 1) := by decide +kernel
theorem dX12_readNumber_28 : decode cX12_readNumber 28 = .ok (.iconst 2, 1) := by decide +kernel
theorem dX12_readNumber_29 : decode cX12_readNumber 29 = .ok (.invokevirtual 222, 3) := by decide +kernel
theorem dX12_readNumber_32 : decode cX12_readNumber 32 = .ok (.ireturn, 1) := by decide +kernel
theorem dX12_readNumber_33 : decode cX12_readNumber 33 = .ok (.aload_n 0, 1) := by decide +kernel
theorem dX12_readNumber_34 : decode cX12_readNumber 34 = .ok (.getfield 191, 3) := by decide +kernel
theorem dX12_readNumber_37 : decode cX12_readNumber 37 = .ok (.istore_n 3, 1) := by decide +kernel
theorem dX12_readNumber_38 : decode cX12_readNumber 38 = .ok (.aload_n 0, 1) := by decide +kernel
theorem dX12_readNumber_39 : decode cX12_readNumber 39 = .ok (.invokevirtual 229, 3) := by decide +kernel
theorem dX12_readNumber_42 : decode cX12_readNumber 42 = .ok (.iload_n 3, 1) := by decide +kernel
theorem dX12_readNumber_43 : decode cX12_readNumber 43 = .ok (.ireturn, 1) := by decide +kernel
theorem dX12_readPath_0 : decode cX12_readPath 0 = .ok (.aload_n 0, 1) := by decide +kernel
theorem dX12_readPath_1 : decode cX12_readPath 1 = .ok (.getfield 74, 3) := by decide +kernel
theorem dX12_readPath_4 : decode cX12_readPath 4 = .ok (.iload_n 1, 1) := by decide +kernel
theorem dX12_readPath_5 : decode cX12_readPath 5 = .ok (.iconst 0, 1) := by decide +kernel
theorem dX12_readPath_6 : decode cX12_readPath 6 = .ok (.iadd, 1) := by decide +kernel
theorem dX12_readPath_7 : decode cX12_readPath 7 = .ok (.aload_n 0, 1) := by decide +kernel
theorem dX12_readPath_8 : decode cX12_readPath 8 = .ok (.iconst 0, 1) := by decide +kernel
theorem dX12_readPath_9 : decode cX12_readPath 9 = .ok (.aload_n 0, 1) := by decide +kernel
theorem dX12_readPath_10 : decode cX12_readPath 10 = .ok (.getfield 148, 3) := by decide +kernel
theorem dX12_readPath_13 : decode cX12_readPath 13 = .ok (.iconst 1, 1) := by decide +kernel
theorem dX12_readPath_14 : decode cX12_readPath 14 = .ok (.isub, 1) := by decide +kernel
theorem dX12_readPath_15 : decode cX12_readPath 15 = .ok (.invokevirtual 270, 3) := by decide +kernel
theorem dX12_readPath_18 : decode cX12_readPath 18 = .ok (.iastore, 1) := by decide +kernel
theorem dX12_readPath_19 : decode cX12_readPath 19 = .ok (.aload_n 0, 1) := by decide +kernel
theorem dX12_readPath_20 : decode cX12_readPath 20 = .ok (.getfield 74, 3) := by decide +kernel
theorem dX12_readPath_23 : decode cX12_readPath 23 = .ok (.iload_n 1, 1) := by decide +kernel
theorem dX12_readPath_24 : decode cX12_readPath 24 = .ok (.iconst 0, 1) := by decide +kernel
theorem dX12_readPath_25 : decode cX12_readPath 25 = .ok (.iadd, 1) := by decide +kernel
theorem dX12_readPath_26 : decode cX12_readPath 26 = .ok (.iaload, 1) := by decide +kernel
theorem dX12_readPath_27 : decode cX12_readPath 27 = .ok (.iconst (-1), 1) := by decide +kernel
theorem dX12_readPath_28 : decode cX12_readPath 28 = .ok (.if_icmp .eq 13, 3) := by decide +kernel
theorem dX12_readPath_31 : decode cX12_readPath 31 = .ok (.aload_n 0, 1) := by decide +kernel
theorem dX12_readPath_32 : decode cX12_readPath 32 = .ok (.bipush 17, 2) := by decide +kernel
theorem dX12_readPath_34 : decode cX12_readPath 34 = .ok (.invokevirtual 273, 3) := by decide +kernel
theorem dX12_readPath_37 : decode cX12_readPath 37 = .ok (.iconst (-1), 1) := by decide +kernel
theorem dX12_readPath_38 : decode cX12_readPath 38 = .ok (.if_icmp .ne 5, 3) := by decide +kernel
theorem dX12_readPath_41 : decode cX12_readPath 41 = .ok (.iconst (-1), 1) := by decide +kernel
theorem dX12_readPath_42 : decode cX12_readPath 42 = .ok (.ireturn, 1) := by decide +kernel
theorem dX12_readPath_43 : decode cX12_readPath 43 = .ok (.aload_n 0, 1) := by decide +kernel
theorem dX12_readPath_44 : decode cX12_readPath 44 = .ok (.getfield 74, 3) := by decide +kernel
theorem dX12_readPath_47 : decode cX12_readPath 47 = .ok (.iload_n 1, 1) := by decide +kernel
theorem dX12_readPath_48 : decode cX12_readPath 48 = .ok (.iconst 1, 1) := by decide +kernel
theorem dX12_readPath_49 : decode cX12_readPath 49 = .ok (.iadd, 1) := by decide +kernel
theorem dX12_readPath_50 : decode cX12_readPath 50 = .ok (.aload_n 0, 1) := by decide +kernel
theorem dX12_readPath_51 : decode cX12_readPath 51 = .ok (.iconst 0, 1) := by decide +kernel
theorem dX12_readPath_52 : decode cX12_readPath 52 = .ok (.aload_n 0, 1) := by decide +kernel
theorem dX12_readPath_53 : decode cX12_readPath 53 = .ok (.getfield 148, 3) := by decide +kernel
theorem dX12_readPath_56 : decode cX12_readPath 56 = .ok (.iconst 1, 1) := by decide +kernel
theorem dX12_readPath_57 : decode cX12_readPath 57 = .ok (.isub, 1) := by decide +kernel
theorem dX12_readPath_58 : decode cX12_readPath 58 = .ok (.invokevirtual 270, 3) := by decide +kernel
theorem dX12_readPath_61 : decode cX12_readPath 61 = .ok (.iastore, 1) := by decide +kernel
theorem dX12_readPath_62 : decode cX12_readPath 62 = .ok (.aload_n 0, 1) := by decide +kernel
theorem dX12_readPath_63 : decode cX12_readPath 63 = .ok (.getfield 74, 3) := by decide +kernel
theorem dX12_readPath_66 : decode cX12_readPath 66 = .ok (.iload_n 1, 1) := by decide +kernel
theorem dX12_readPath_67 : decode cX12_readPath 67 = .ok (.iconst 1, 1) := by decide +kernel
theorem dX12_readPath_68 : decode cX12_readPath 68 = .ok (.iadd, 1) := by decide +kernel
theorem dX12_readPath_69 : decode cX12_readPath 69 = .ok (.iaload, 1) := by decide +kernel
theorem dX12_readPath_70 : decode cX12_readPath 70 = .ok (.iconst (-1), 1) := by decide +kernel
theorem dX12_readPath_71 : decode cX12_readPath 71 = .ok (.if_icmp .eq 13, 3) := by decide +kernel
theorem dX12_readPath_74 : decode cX12_readPath 74 = .ok (.aload_n 0, 1) := by decide +kernel
theorem dX12_readPath_75 : decode cX12_readPath 75 = .ok (.bipush 18, 2) := by decide +kernel
theorem dX12_readPath_77 : decode cX12_readPath 77 = .ok (.invokevirtual 273, 3) := by decide +kernel
theorem dX12_readPath_80 : decode cX12_readPath 80 = .ok (.iconst (-1), 1) := by decide +kernel
theorem dX12_readPath_81 : decode cX12_readPath 81 = .ok (.if_icmp .ne 5, 3) := by decide +kernel
theorem dX12_readPath_84 : decode cX12_readPath 84 = .ok (.iconst (-1), 1) := by decide +kernel
theorem dX12_readPath_85 : decode cX12_readPath 85 = .ok (.ireturn, 1) := by decide +kernel
theorem dX12_readPath_86 : decode cX12_readPath 86 = .ok (.aload_n 0, 1) := by decide +kernel
theorem dX12_readPath_87 : decode cX12_readPath 87 = .ok (.getfield 74, 3) := by decide +kernel
theorem dX12_readPath_90 : decode cX12_readPath 90 = .ok (.iload_n 1, 1) := by decide +kernel
theorem dX12_readPath_91 : decode cX12_readPath 91 = .ok (.iconst 2, 1) := by decide +kernel
theorem dX12_readPath_92 : decode cX12_readPath 92 = .ok (.iadd, 1) := by decide +kernel
theorem dX12_readPath_93 : decode cX12_readPath 93 = .ok (.aload_n 0, 1) := by decide +kernel
theorem dX12_readPath_94 : decode cX12_readPath 94 = .ok (.iconst 1, 1) := by decide +kernel
theorem dX12_readPath_95 : decode cX12_readPath 95 = .ok (.bipush 99, 2) := by decide +kernel
theorem dX12_readPath_97 : decode cX12_readPath 97 = .ok (.invokevirtual 270, 3) := by decide +kernel
theorem dX12_readPath_100 : decode cX12_readPath 100 = .ok (.iastore, 1) := by decide +kernel
theorem dX12_readPath_101 : decode cX12_readPath 101 = .ok (.aload_n 0, 1) := by decide +kernel
theorem dX12_readPath_102 : decode cX12_readPath 102 = .ok (.getfield 74, 3) := by decide +kernel
theorem dX12_readPath_105 : decode cX12_readPath 105 = .ok (.iload_n 1, 1) := by decide +kernel
theorem dX12_readPath_106 : decode cX12_readPath 106 = .ok (.iconst 2, 1) := by decide +kernel
theorem dX12_readPath_107 : decode cX12_readPath 107 = .ok (.iadd, 1) := by decide +kernel
theorem dX12_readPath_108 : decode cX12_readPath 108 = .ok (.iaload, 1) := by decide +kernel
theorem dX12_readPath_109 : decode cX12_readPath 109 = .ok (.iconst (-1), 1) := by decide +kernel
theorem dX12_readPath_110 : decode cX12_readPath 110 = .ok (.if_icmp .ne 5, 3) := by decide +kernel
theorem dX12_readPath_113 : decode cX12_readPath 113 = .ok (.iconst (-1), 1) := by decide +kernel
theorem dX12_readPath_114 : decode cX12_readPath 114 = .ok (.ireturn, 1) := by decide +kernel
theorem dX12_readPath_115 : decode cX12_readPath 115 = .ok (.aload_n 0, 1) := by decide +kernel
theorem dX12_readPath_116 : decode cX12_readPath 116 = .ok (.getfield 74, 3) := by decide +kernel
theorem dX12_readPath_119 : decode cX12_readPath 119 = .ok (.iload_n 1, 1) := by decide +kernel
theorem dX12_readPath_120 : decode cX12_readPath 120 = .ok (.iconst 3, 1) := by decide +kernel
theorem dX12_readPath_121 : decode cX12_readPath 121 = .ok (.iadd, 1) := by decide +kernel
theorem dX12_readPath_122 : decode cX12_readPath 122 = .ok (.bipush 9, 2) := by decide +kernel
theorem dX12_readPath_124 : decode cX12_readPath 124 = .ok (.iastore, 1) := by decide +kernel
theorem dX12_readPath_125 : decode cX12_readPath 125 = .ok (.aload_n 0, 1) := by decide +kernel
theorem dX12_readPath_126 : decode cX12_readPath 126 = .ok (.bipush 19, 2) := by decide +kernel
theorem dX12_readPath_128 : decode cX12_readPath 128 = .ok (.invokevirtual 251, 3) := by decide +kernel
theorem dX12_readPath_131 : decode cX12_readPath 131 = .ok (.ifCond .eq 36, 3) := by decide +kernel
theorem dX12_readPath_134 : decode cX12_readPath 134 = .ok (.aload_n 0, 1) := by decide +kernel
theorem dX12_readPath_135 : decode cX12_readPath 135 = .ok (.invokevirtual 229, 3) := by decide +kernel
theorem dX12_readPath_138 : decode cX12_readPath 138 = .ok (.aload_n 0, 1) := by decide +kernel
theorem dX12_readPath_139 : decode cX12_readPath 139 = .ok (.getfield 74, 3) := by decide +kernel
theorem dX12_readPath_142 : decode cX12_readPath 142 = .ok (.iload_n 1, 1) := by decide +kernel
theorem dX12_readPath_143 : decode cX12_readPath 143 = .ok (.iconst 3, 1) := by decide +kernel
theorem dX12_readPath_144 : decode cX12_readPath 144 = .ok (.iadd, 1) := by decide +kernel
theorem dX12_readPath_145 : decode cX12_readPath 145 = .ok (.aload_n 0, 1) := by decide +kernel
theorem dX12_readPath_146 : decode cX12_readPath 146 = .ok (.iconst 0, 1) := by decide +kernel
theorem dX12_readPath_147 : decode cX12_readPath 147 = .ok (.bipush 9, 2) := by decide +kernel
theorem dX12_readPath_149 : decode cX12_readPath 149 = .ok (.invokevirtual 270, 3) := by decide +kernel
theorem dX12_readPath_152 : decode cX12_readPath 152 = .ok (.iastore, 1) := by decide +kernel
theorem dX12_readPath_153 : decode cX12_readPath 153 = .ok (.aload_n 0, 1) := by decide +kernel
theorem dX12_readPath_154 : decode cX12_readPath 154 = .ok (.getfield 74, 3) := by decide +kernel
theorem dX12_readPath_157 : decode cX12_readPath 157 = .ok (.iload_n 1, 1) := by decide +kernel
theorem dX12_readPath_158 : decode cX12_readPath 158 = .ok (.iconst 3, 1) := by decide +kernel
theorem dX12_readPath_159 : decode cX12_readPath 159 = .ok (.iadd, 1) := by decide +kernel
theorem dX12_readPath_160 : decode cX12_readPath 160 = .ok (.iaload, 1) := by decide +kernel
theorem dX12_readPath_161 : decode cX12_readPath 161 = .ok (.iconst (-1), 1) := by decide +kernel
theorem dX12_readPath_162 : decode cX12_readPath 162 = .ok (.if_icmp .ne 5, 3) := by decide +kernel
theorem dX12_readPath_165 : decode cX12_readPath 165 = .ok (.iconst (-1), 1) := by decide +kernel
theorem dX12_readPath_166 : decode cX12_readPath 166 = .ok (.ireturn, 1) := by decide +kernel
theorem dX12_readPath_167 : decode cX12_readPath 167 = .ok (.aload_n 0, 1) := by decide +kernel
theorem dX12_readPath_168 : decode cX12_readPath 168 = .ok (.bipush 59, 2) := by decide +kernel
theorem dX12_readPath_170 : decode cX12_readPath 170 = .ok (.invokevirtual 276, 3) := by decide +kernel
theorem dX12_readPath_173 : decode cX12_readPath 173 = .ok (.ireturn, 1) := by decide +kernel
theorem dX12_readPaths_0 : decode cX12_readPaths 0 = .ok (.iconst 0, 1) := by decide +kernel
theorem dX12_readPaths_1 : decode cX12_readPaths 1 = .ok (.istore_n 1, 1) := by decide +kernel
theorem dX12_readPaths_2 : decode cX12_readPaths 2 = .ok (.aload_n 0, 1) := by decide +kernel
theorem dX12_readPaths_3 : decode cX12_readPaths 3 = .ok (.bipush 16, 2) := by decide +kernel
theorem dX12_readPaths_5 : decode cX12_readPaths 5 = .ok (.invokevirtual 251, 3) := by decide +kernel
theorem dX12_readPaths_8 : decode cX12_readPaths 8 = .ok (.ifCond .eq 43, 3) := by decide +kernel
theorem dX12_readPaths_11 : decode cX12_readPaths 11 = .ok (.iload_n 1, 1) := by decide +kernel
theorem dX12_readPaths_12 : decode cX12_readPaths 12 = .ok (.bipush 40, 2) := by decide +kernel
theorem dX12_readPaths_14 : decode cX12_readPaths 14 = .ok (.if_icmp .ne 9, 3) := by decide +kernel
theorem dX12_readPaths_17 : decode cX12_readPaths 17 = .ok (.aload_n 0, 1) := by decide +kernel
theorem dX12_readPaths_18 : decode cX12_readPaths 18 = .ok (.iconst 3, 1) := by decide +kernel
theorem dX12_readPaths_19 : decode cX12_readPaths 19 = .ok (.invokevirtual 222, 3) := by decide +kernel
theorem dX12_readPaths_22 : decode cX12_readPaths 22 = .ok (.ireturn, 1) := by decide +kernel
theorem dX12_readPaths_23 : decode cX12_readPaths 23 = .ok (.aload_n 0, 1) := by decide +kernel
theorem dX12_readPaths_24 : decode cX12_readPaths 24 = .ok (.invokevirtual 229, 3) := by decide +kernel
theorem dX12_readPaths_27 : decode cX12_readPaths 27 = .ok (.aload_n 0, 1) := by decide +kernel
theorem dX12_readPaths_28 : decode cX12_readPaths 28 = .ok (.sipush 160, 3) := by decide +kernel
theorem dX12_readPaths_31 : decode cX12_readPaths 31 = .ok (.iconst 4, 1) := by decide +kernel
theorem dX12_readPaths_32 : decode cX12_readPaths 32 = .ok (.iload_n 1, 1) := by decide +kernel
theorem dX12_readPaths_33 : decode cX12_readPaths 33 = .ok (.imul, 1) := by decide +kernel
theorem dX12_readPaths_34 : decode cX12_readPaths 34 = .ok (.iadd, 1) := by decide +kernel
theorem dX12_readPaths_35 : decode cX12_readPaths 35 = .ok (.invokevirtual 279, 3) := by decide +kernel
theorem dX12_readPaths_38 : decode cX12_readPaths 38 = .ok (.iconst (-1), 1) := by decide +kernel
theorem dX12_readPaths_39 : decode cX12_readPaths 39 = .ok (.if_icmp .ne 5, 3) := by decide +kernel
theorem dX12_readPaths_42 : decode cX12_readPaths 42 = .ok (.iconst (-1), 1) := by decide +kernel
theorem dX12_readPaths_43 : decode cX12_readPaths 43 = .ok (.ireturn, 1) := by decide +kernel
theorem dX12_readPaths_44 : decode cX12_readPaths 44 = .ok (.iload_n 1, 1) := by decide +kernel
theorem dX12_readPaths_45 : decode cX12_readPaths 45 = .ok (.iconst 1, 1) := by decide +kernel
theorem dX12_readPaths_46 : decode cX12_readPaths 46 = .ok (.iadd, 1) := by decide +kernel
theorem dX12_readPaths_47 : decode cX12_readPaths 47 = .ok (.istore_n 1, 1) := by decide +kernel
theorem dX12_readPaths_48 : decode cX12_readPaths 48 = .ok (.goto (-46), 3) := by decide +kernel
theorem dX12_readPaths_51 : decode cX12_readPaths 51 = .ok (.aload_n 0, 1) := by decide +kernel
theorem dX12_readPaths_52 : decode cX12_readPaths 52 = .ok (.getfield 188, 3) := by decide +kernel
theorem dX12_readPaths_55 : decode cX12_readPaths 55 = .ok (.ifCond .ne 7, 3) := by decide +kernel
theorem dX12_readPaths_58 : decode cX12_readPaths 58 = .ok (.iload_n 1, 1) := by decide +kernel
theorem dX12_readPaths_59 : decode cX12_readPaths 59 = .ok (.goto 8, 3) := by decide +kernel
theorem dX12_readPaths_62 : decode cX12_readPaths 62 = .ok (.aload_n 0, 1) := by decide +kernel
theorem dX12_readPaths_63 : decode cX12_readPaths 63 = .ok (.iconst 1, 1) := by decide +kernel
theorem dX12_readPaths_64 : decode cX12_readPaths 64 = .ok (.invokevirtual 222, 3) := by decide +kernel
theorem dX12_readPaths_67 : decode cX12_readPaths 67 = .ok (.ireturn, 1) := by decide +kernel
theorem dX12_readStep_0 : decode cX12_readStep 0 = .ok (.aload_n 0, 1) := by decide +kernel
theorem dX12_readStep_1 : decode cX12_readStep 1 = .ok (.bipush 28, 2) := by decide +kernel
theorem dX12_readStep_3 : decode cX12_readStep 3 = .ok (.invokevirtual 251, 3) := by decide +kernel
theorem dX12_readStep_6 : decode cX12_readStep 6 = .ok (.istore_n 1, 1) := by decide +kernel
theorem dX12_readStep_7 : decode cX12_readStep 7 = .ok (.aload_n 0, 1) := by decide +kernel
theorem dX12_readStep_8 : decode cX12_readStep 8 = .ok (.invokevirtual 229, 3) := by decide +kernel
theorem dX12_readStep_11 : decode cX12_readStep 11 = .ok (.iload_n 1, 1) := by decide +kernel
theorem dX12_readStep_12 : decode cX12_readStep 12 = .ok (.ifCond .eq 17, 3) := by decide +kernel
theorem dX12_readStep_15 : decode cX12_readStep 15 = .ok (.aload_n 0, 1) := by decide +kernel
theorem dX12_readStep_16 : decode cX12_readStep 16 = .ok (.iconst 0, 1) := by decide +kernel
theorem dX12_readStep_17 : decode cX12_readStep 17 = .ok (.aload_n 0, 1) := by decide +kernel
theorem dX12_readStep_18 : decode cX12_readStep 18 = .ok (.getfield 148, 3) := by decide +kernel
theorem dX12_readStep_21 : decode cX12_readStep 21 = .ok (.iconst 1, 1) := by decide +kernel
theorem dX12_readStep_22 : decode cX12_readStep 22 = .ok (.isub, 1) := by decide +kernel
theorem dX12_readStep_23 : decode cX12_readStep 23 = .ok (.invokevirtual 270, 3) := by decide +kernel
theorem dX12_readStep_26 : decode cX12_readStep 26 = .ok (.goto 10, 3) := by decide +kernel
theorem dX12_readStep_29 : decode cX12_readStep 29 = .ok (.aload_n 0, 1) := by decide +kernel
theorem dX12_readStep_30 : decode cX12_readStep 30 = .ok (.iconst 1, 1) := by decide +kernel
theorem dX12_readStep_31 : decode cX12_readStep 31 = .ok (.bipush 60, 2) := by decide +kernel
theorem dX12_readStep_33 : decode cX12_readStep 33 = .ok (.invokevirtual 270, 3) := by decide +kernel
theorem dX12_readStep_36 : decode cX12_readStep 36 = .ok (.istore_n 2, 1) := by decide +kernel
theorem dX12_readStep_37 : decode cX12_readStep 37 = .ok (.iload_n 2, 1) := by decide +kernel
theorem dX12_readStep_38 : decode cX12_readStep 38 = .ok (.iconst (-1), 1) := by decide +kernel
theorem dX12_readStep_39 : decode cX12_readStep 39 = .ok (.if_icmp .eq 13, 3) := by decide +kernel
theorem dX12_readStep_42 : decode cX12_readStep 42 = .ok (.aload_n 0, 1) := by decide +kernel
theorem dX12_readStep_43 : decode cX12_readStep 43 = .ok (.bipush 59, 2) := by decide +kernel
theorem dX12_readStep_45 : decode cX12_readStep 45 = .ok (.invokevirtual 276, 3) := by decide +kernel
theorem dX12_readStep_48 : decode cX12_readStep 48 = .ok (.iconst (-1), 1) := by decide +kernel
theorem dX12_readStep_49 : decode cX12_readStep 49 = .ok (.if_icmp .ne 5, 3) := by decide +kernel
theorem dX12_readStep_52 : decode cX12_readStep 52 = .ok (.iconst (-1), 1) := by decide +kernel
theorem dX12_readStep_53 : decode cX12_readStep 53 = .ok (.ireturn, 1) := by decide +kernel
theorem dX12_readStep_54 : decode cX12_readStep 54 = .ok (.aload_n 0, 1) := by decide +kernel
theorem dX12_readStep_55 : decode cX12_readStep 55 = .ok (.iload_n 1, 1) := by decide +kernel
theorem dX12_readStep_56 : decode cX12_readStep 56 = .ok (.ifCond .eq 7, 3) := by decide +kernel
theorem dX12_readStep_59 : decode cX12_readStep 59 = .ok (.iconst 0, 1) := by decide +kernel
theorem dX12_readStep_60 : decode cX12_readStep 60 = .ok (.goto 4, 3) := by decide +kernel
theorem dX12_readStep_63 : decode cX12_readStep 63 = .ok (.iconst 1, 1) := by decide +kernel
theorem dX12_readStep_64 : decode cX12_readStep 64 = .ok (.iload_n 2, 1) := by decide +kernel
theorem dX12_readStep_65 : decode cX12_readStep 65 = .ok (.invokevirtual 288, 3) := by decide +kernel
theorem dX12_readStep_68 : decode cX12_readStep 68 = .ok (.iconst 0, 1) := by decide +kernel
theorem dX12_readStep_69 : decode cX12_readStep 69 = .ok (.ireturn, 1) := by decide +kernel
theorem dX12_readSteps_0 : decode cX12_readSteps 0 = .ok (.aload_n 0, 1) := by decide +kernel
theorem dX12_readSteps_1 : decode cX12_readSteps 1 = .ok (.iconst 0, 1) := by decide +kernel
theorem dX12_readSteps_2 : decode cX12_readSteps 2 = .ok (.putfield 285, 3) := by decide +kernel
theorem dX12_readSteps_5 : decode cX12_readSteps 5 = .ok (.aload_n 0, 1) := by decide +kernel
theorem dX12_readSteps_6 : decode cX12_readSteps 6 = .ok (.invokevirtual 291, 3) := by decide +kernel
theorem dX12_readSteps_9 : decode cX12_readSteps 9 = .ok (.ifCond .ne 28, 3) := by decide +kernel
theorem dX12_readSteps_12 : decode cX12_readSteps 12 = .ok (.aload_n 0, 1) := by decide +kernel
theorem dX12_readSteps_13 : decode cX12_readSteps 13 = .ok (.bipush 30, 2) := by decide +kernel
theorem dX12_readSteps_15 : decode cX12_readSteps 15 = .ok (.invokevirtual 251, 3) := by decide +kernel
theorem dX12_readSteps_18 : decode cX12_readSteps 18 = .ok (.ifCond .ne 19, 3) := by decide +kernel
theorem dX12_readSteps_21 : decode cX12_readSteps 21 = .ok (.aload_n 0, 1) := by decide +kernel
theorem dX12_readSteps_22 : decode cX12_readSteps 22 = .ok (.getfield 248, 3) := by decide +kernel
theorem dX12_readSteps_25 : decode cX12_readSteps 25 = .ok (.ifCond .le 57, 3) := by decide +kernel
theorem dX12_readSteps_28 : decode cX12_readSteps 28 = .ok (.aload_n 0, 1) := by decide +kernel
theorem dX12_readSteps_29 : decode cX12_readSteps 29 = .ok (.bipush 41, 2) := by decide +kernel
theorem dX12_readSteps_31 : decode cX12_readSteps 31 = .ok (.invokevirtual 236, 3) := by decide +kernel
theorem dX12_readSteps_34 : decode cX12_readSteps 34 = .ok (.ifCond .eq 48, 3) := by decide +kernel
theorem dX12_readSteps_37 : decode cX12_readSteps 37 = .ok (.aload_n 0, 1) := by decide +kernel
theorem dX12_readSteps_38 : decode cX12_readSteps 38 = .ok (.invokevirtual 291, 3) := by decide +kernel
theorem dX12_readSteps_41 : decode cX12_readSteps 41 = .ok (.ifCond .eq 10, 3) := by decide +kernel
theorem dX12_readSteps_44 : decode cX12_readSteps 44 = .ok (.aload_n 0, 1) := by decide +kernel
theorem dX12_readSteps_45 : decode cX12_readSteps 45 = .ok (.invokevirtual 294, 3) := by decide +kernel
theorem dX12_readSteps_48 : decode cX12_readSteps 48 = .ok (.goto 23, 3) := by decide +kernel
theorem dX12_readSteps_51 : decode cX12_readSteps 51 = .ok (.aload_n 0, 1) := by decide +kernel
theorem dX12_readSteps_52 : decode cX12_readSteps 52 = .ok (.bipush 30, 2) := by decide +kernel
theorem dX12_readSteps_54 : decode cX12_readSteps 54 = .ok (.invokevirtual 251, 3) := by decide +kernel
theorem dX12_readSteps_57 : decode cX12_readSteps 57 = .ok (.ifCond .eq 10, 3) := by decide +kernel
theorem dX12_readSteps_60 : decode cX12_readSteps 60 = .ok (.aload_n 0, 1) := by decide +kernel
theorem dX12_readSteps_61 : decode cX12_readSteps 61 = .ok (.invokevirtual 297, 3) := by decide +kernel
theorem dX12_readSteps_64 : decode cX12_readSteps 64 = .ok (.goto 7, 3) := by decide +kernel
theorem dX12_readSteps_67 : decode cX12_readSteps 67 = .ok (.aload_n 0, 1) := by decide +kernel
theorem dX12_readSteps_68 : decode cX12_readSteps 68 = .ok (.invokevirtual 300, 3) := by decide +kernel
theorem dX12_readSteps_71 : decode cX12_readSteps 71 = .ok (.istore_n 1, 1) := by decide +kernel
theorem dX12_readSteps_72 : decode cX12_readSteps 72 = .ok (.iload_n 1, 1) := by decide +kernel
theorem dX12_readSteps_73 : decode cX12_readSteps 73 = .ok (.iconst (-1), 1) := by decide +kernel
theorem dX12_readSteps_74 : decode cX12_readSteps 74 = .ok (.if_icmp .ne 5, 3) := by decide +kernel
theorem dX12_readSteps_77 : decode cX12_readSteps 77 = .ok (.iconst (-1), 1) := by decide +kernel
theorem dX12_readSteps_78 : decode cX12_readSteps 78 = .ok (.ireturn, 1) := by decide +kernel
theorem dX12_readSteps_79 : decode cX12_readSteps 79 = .ok (.goto (-74), 3) := by decide +kernel
theorem dX12_readSteps_82 : decode cX12_readSteps 82 = .ok (.aload_n 0, 1) := by decide +kernel
theorem dX12_readSteps_83 : decode cX12_readSteps 83 = .ok (.getfield 248, 3) := by decide +kernel
theorem dX12_readSteps_86 : decode cX12_readSteps 86 = .ok (.ifCond .ne 14, 3) := by decide +kernel
theorem dX12_readSteps_89 : decode cX12_readSteps 89 = .ok (.aload_n 0, 1) := by decide +kernel
theorem dX12_readSteps_90 : decode cX12_readSteps 90 = .ok (.getfield 188, 3) := by decide +kernel
theorem dX12_readSteps_93 : decode cX12_readSteps 93 = .ok (.ifCond .ne 7, 3) := by decide +kernel
theorem dX12_readSteps_96 : decode cX12_readSteps 96 = .ok (.iconst 0, 1) := by decide +kernel
theorem dX12_readSteps_97 : decode cX12_readSteps 97 = .ok (.goto 8, 3) := by decide +kernel
theorem dX12_readSteps_100 : decode cX12_readSteps 100 = .ok (.aload_n 0, 1) := by decide +kernel
theorem dX12_readSteps_101 : decode cX12_readSteps 101 = .ok (.iconst 1, 1) := by decide +kernel
theorem dX12_readSteps_102 : decode cX12_readSteps 102 = .ok (.invokevirtual 222, 3) := by decide +kernel
theorem dX12_readSteps_105 : decode cX12_readSteps 105 = .ok (.ireturn, 1) := by decide +kernel
theorem dX12_readWord_0 : decode cX12_readWord 0 = .ok (.aload_n 0, 1) := by decide +kernel
theorem dX12_readWord_1 : decode cX12_readWord 1 = .ok (.iload_n 1, 1) := by decide +kernel
theorem dX12_readWord_2 : decode cX12_readWord 2 = .ok (.invokevirtual 251, 3) := by decide +kernel
theorem dX12_readWord_5 : decode cX12_readWord 5 = .ok (.ifCond .ne 9, 3) := by decide +kernel
theorem dX12_readWord_8 : decode cX12_readWord 8 = .ok (.aload_n 0, 1) := by decide +kernel
theorem dX12_readWord_9 : decode cX12_readWord 9 = .ok (.iconst 1, 1) := by decide +kernel
theorem dX12_readWord_10 : decode cX12_readWord 10 = .ok (.invokevirtual 222, 3) := by decide +kernel
theorem dX12_readWord_13 : decode cX12_readWord 13 = .ok (.ireturn, 1) := by decide +kernel
theorem dX12_readWord_14 : decode cX12_readWord 14 = .ok (.aload_n 0, 1) := by decide +kernel
theorem dX12_readWord_15 : decode cX12_readWord 15 = .ok (.invokevirtual 229, 3) := by decide +kernel
theorem dX12_readWord_18 : decode cX12_readWord 18 = .ok (.iconst 0, 1) := by decide +kernel
theorem dX12_readWord_19 : decode cX12_readWord 19 = .ok (.ireturn, 1) := by decide +kernel
theorem q_1445 : Cond.fieldLink RX12 80 "LampRoundModel" "stepOp" "[I" ∈ GW := inG 1445 (by decide +kernel) (by decide +kernel)
theorem q_1446 : Cond.fieldLink RX12 83 "LampRoundModel" "stepHow" "[I" ∈ GW := inG 1446 (by decide +kernel) (by decide +kernel)
theorem q_1447 : Cond.fieldLink RX12 285 "LampRoundModel" "steps" "I" ∈ GW := inG 1447 (by decide +kernel) (by decide +kernel)
theorem q_1702 : Cond.methodLink RX12 279 yX12_readPath ∈ GW := inG 1702 (by decide +kernel) (by decide +kernel)
theorem q_1704 : Cond.instanceMethod yX12_readPath ∈ GW := inG 1704 (by decide +kernel) (by decide +kernel)
theorem q_1705 : Cond.code yX12_readPath cX12_readPath 2 (some .int) ∈ GW := inG 1705 (by decide +kernel) (by decide +kernel)
theorem q_1706 : Cond.methodLink RX12 270 yX12_readNumber ∈ GW := inG 1706 (by decide +kernel) (by decide +kernel)
theorem q_1708 : Cond.instanceMethod yX12_readNumber ∈ GW := inG 1708 (by decide +kernel) (by decide +kernel)
theorem q_1709 : Cond.code yX12_readNumber cX12_readNumber 4 (some .int) ∈ GW := inG 1709 (by decide +kernel) (by decide +kernel)
theorem q_1710 : Cond.methodLink RX12 273 yX12_readWord ∈ GW := inG 1710 (by decide +kernel) (by decide +kernel)
theorem q_1712 : Cond.instanceMethod yX12_readWord ∈ GW := inG 1712 (by decide +kernel) (by decide +kernel)
theorem q_1713 : Cond.code yX12_readWord cX12_readWord 2 (some .int) ∈ GW := inG 1713 (by decide +kernel) (by decide +kernel)
theorem q_1714 : Cond.methodLink RX12 276 yX12_readMark ∈ GW := inG 1714 (by decide +kernel) (by decide +kernel)
theorem q_1716 : Cond.instanceMethod yX12_readMark ∈ GW := inG 1716 (by decide +kernel) (by decide +kernel)
theorem q_1717 : Cond.code yX12_readMark cX12_readMark 2 (some .int) ∈ GW := inG 1717 (by decide +kernel) (by decide +kernel)
theorem q_1726 : Cond.methodLink RX12 282 yX12_readNeed ∈ GW := inG 1726 (by decide +kernel) (by decide +kernel)
theorem q_1728 : Cond.instanceMethod yX12_readNeed ∈ GW := inG 1728 (by decide +kernel) (by decide +kernel)
theorem q_1729 : Cond.code yX12_readNeed cX12_readNeed 2 (some .int) ∈ GW := inG 1729 (by decide +kernel) (by decide +kernel)
theorem q_1738 : Cond.methodLink RX12 291 yX12_isStep ∈ GW := inG 1738 (by decide +kernel) (by decide +kernel)
theorem q_1740 : Cond.instanceMethod yX12_isStep ∈ GW := inG 1740 (by decide +kernel) (by decide +kernel)
theorem q_1741 : Cond.code yX12_isStep cX12_isStep 1 (some .boolean) ∈ GW := inG 1741 (by decide +kernel) (by decide +kernel)
theorem q_1742 : Cond.methodLink RX12 294 yX12_readStep ∈ GW := inG 1742 (by decide +kernel) (by decide +kernel)
theorem q_1744 : Cond.instanceMethod yX12_readStep ∈ GW := inG 1744 (by decide +kernel) (by decide +kernel)
theorem q_1745 : Cond.code yX12_readStep cX12_readStep 3 (some .int) ∈ GW := inG 1745 (by decide +kernel) (by decide +kernel)
theorem q_1746 : Cond.methodLink RX12 288 yX12_emitsStep ∈ GW := inG 1746 (by decide +kernel) (by decide +kernel)
theorem q_1748 : Cond.instanceMethod yX12_emitsStep ∈ GW := inG 1748 (by decide +kernel) (by decide +kernel)
theorem q_1749 : Cond.code yX12_emitsStep cX12_emitsStep 3 none ∈ GW := inG 1749 (by decide +kernel) (by decide +kernel)
theorem q_1750 : Cond.methodLink RX12 297 yX12_readAgain ∈ GW := inG 1750 (by decide +kernel) (by decide +kernel)
theorem q_1752 : Cond.instanceMethod yX12_readAgain ∈ GW := inG 1752 (by decide +kernel) (by decide +kernel)
theorem q_1753 : Cond.code yX12_readAgain cX12_readAgain 2 (some .int) ∈ GW := inG 1753 (by decide +kernel) (by decide +kernel)
theorem q_1754 : Cond.methodLink RX12 300 yX12_readAgainEnd ∈ GW := inG 1754 (by decide +kernel) (by decide +kernel)
theorem q_1756 : Cond.instanceMethod yX12_readAgainEnd ∈ GW := inG 1756 (by decide +kernel) (by decide +kernel)
theorem q_1757 : Cond.code yX12_readAgainEnd cX12_readAgainEnd 1 (some .int) ∈ GW := inG 1757 (by decide +kernel) (by decide +kernel)
theorem q_61 : Cond.selects RX12 yX12_readPath yX12_readPath ∈ GW := inG 61 (by decide +kernel) (by decide +kernel)
theorem q_62 : Cond.selects RX12 yX12_readNumber yX12_readNumber ∈ GW := inG 62 (by decide +kernel) (by decide +kernel)
theorem q_63 : Cond.selects RX12 yX12_readWord yX12_readWord ∈ GW := inG 63 (by decide +kernel) (by decide +kernel)
theorem q_64 : Cond.selects RX12 yX12_readMark yX12_readMark ∈ GW := inG 64 (by decide +kernel) (by decide +kernel)
theorem q_67 : Cond.selects RX12 yX12_readNeed yX12_readNeed ∈ GW := inG 67 (by decide +kernel) (by decide +kernel)
theorem q_70 : Cond.selects RX12 yX12_isStep yX12_isStep ∈ GW := inG 70 (by decide +kernel) (by decide +kernel)
theorem q_71 : Cond.selects RX12 yX12_readStep yX12_readStep ∈ GW := inG 71 (by decide +kernel) (by decide +kernel)
theorem q_72 : Cond.selects RX12 yX12_emitsStep yX12_emitsStep ∈ GW := inG 72 (by decide +kernel) (by decide +kernel)
theorem q_73 : Cond.selects RX12 yX12_readAgain yX12_readAgain ∈ GW := inG 73 (by decide +kernel) (by decide +kernel)
theorem q_74 : Cond.selects RX12 yX12_readAgainEnd yX12_readAgainEnd ∈ GW := inG 74 (by decide +kernel) (by decide +kernel)
theorem hdV_X12_emitsStep : yX12_emitsStep.cls = RX12 ∧ yX12_emitsStep.cls ≠ "java/lang/invoke/MethodHandle" ∧ yX12_emitsStep.cls ≠ "java/lang/invoke/VarHandle" ∧ (parseMethodDescriptor yX12_emitsStep.desc).map (fun d => d.parameters.length) = some 2 := by decide +kernel
theorem hdV_X12_isStep : yX12_isStep.cls = RX12 ∧ yX12_isStep.cls ≠ "java/lang/invoke/MethodHandle" ∧ yX12_isStep.cls ≠ "java/lang/invoke/VarHandle" ∧ (parseMethodDescriptor yX12_isStep.desc).map (fun d => d.parameters.length) = some 0 := by decide +kernel
theorem hdV_X12_readAgain : yX12_readAgain.cls = RX12 ∧ yX12_readAgain.cls ≠ "java/lang/invoke/MethodHandle" ∧ yX12_readAgain.cls ≠ "java/lang/invoke/VarHandle" ∧ (parseMethodDescriptor yX12_readAgain.desc).map (fun d => d.parameters.length) = some 0 := by decide +kernel
theorem hdV_X12_readAgainEnd : yX12_readAgainEnd.cls = RX12 ∧ yX12_readAgainEnd.cls ≠ "java/lang/invoke/MethodHandle" ∧ yX12_readAgainEnd.cls ≠ "java/lang/invoke/VarHandle" ∧ (parseMethodDescriptor yX12_readAgainEnd.desc).map (fun d => d.parameters.length) = some 0 := by decide +kernel
theorem hdV_X12_readMark : yX12_readMark.cls = RX12 ∧ yX12_readMark.cls ≠ "java/lang/invoke/MethodHandle" ∧ yX12_readMark.cls ≠ "java/lang/invoke/VarHandle" ∧ (parseMethodDescriptor yX12_readMark.desc).map (fun d => d.parameters.length) = some 1 := by decide +kernel
theorem hdV_X12_readNeed : yX12_readNeed.cls = RX12 ∧ yX12_readNeed.cls ≠ "java/lang/invoke/MethodHandle" ∧ yX12_readNeed.cls ≠ "java/lang/invoke/VarHandle" ∧ (parseMethodDescriptor yX12_readNeed.desc).map (fun d => d.parameters.length) = some 1 := by decide +kernel
theorem hdV_X12_readNumber : yX12_readNumber.cls = RX12 ∧ yX12_readNumber.cls ≠ "java/lang/invoke/MethodHandle" ∧ yX12_readNumber.cls ≠ "java/lang/invoke/VarHandle" ∧ (parseMethodDescriptor yX12_readNumber.desc).map (fun d => d.parameters.length) = some 2 := by decide +kernel
theorem hdV_X12_readPath : yX12_readPath.cls = RX12 ∧ yX12_readPath.cls ≠ "java/lang/invoke/MethodHandle" ∧ yX12_readPath.cls ≠ "java/lang/invoke/VarHandle" ∧ (parseMethodDescriptor yX12_readPath.desc).map (fun d => d.parameters.length) = some 1 := by decide +kernel
theorem hdV_X12_readStep : yX12_readStep.cls = RX12 ∧ yX12_readStep.cls ≠ "java/lang/invoke/MethodHandle" ∧ yX12_readStep.cls ≠ "java/lang/invoke/VarHandle" ∧ (parseMethodDescriptor yX12_readStep.desc).map (fun d => d.parameters.length) = some 0 := by decide +kernel
theorem hdV_X12_readWord : yX12_readWord.cls = RX12 ∧ yX12_readWord.cls ≠ "java/lang/invoke/MethodHandle" ∧ yX12_readWord.cls ≠ "java/lang/invoke/VarHandle" ∧ (parseMethodDescriptor yX12_readWord.desc).map (fun d => d.parameters.length) = some 1 := by decide +kernel
