theorem dX12_canSet_0 : decode cX12_canSet 0 = .ok (.aload_n 0, 1) := by decide +kernel
theorem dX12_canSet_1 : decode cX12_canSet 1 = .ok (.iload_n 1, 1) := by decide +kernel
theorem dX12_canSet_2 : decode cX12_canSet 2 = .ok (.iconst 0, 1) := by decide +kernel
theorem dX12_canSet_3 : decode cX12_canSet 3 = .ok (.bipush 10, 2) := by decide +kernel
theorem dX12_canSet_5 : decode cX12_canSet 5 = .ok (.invokevirtual 151, 3) := by decide +kernel
theorem dX12_canSet_8 : decode cX12_canSet 8 = .ok (.ifCond .eq 16, 3) := by decide +kernel
theorem dX12_canSet_11 : decode cX12_canSet 11 = .ok (.iload_n 1, 1) := by decide +kernel
theorem dX12_canSet_12 : decode cX12_canSet 12 = .ok (.iconst 5, 1) := by decide +kernel
theorem dX12_canSet_13 : decode cX12_canSet 13 = .ok (.if_icmp .le 13, 3) := by decide +kernel
theorem dX12_canSet_16 : decode cX12_canSet 16 = .ok (.aload_n 0, 1) := by decide +kernel
theorem dX12_canSet_17 : decode cX12_canSet 17 = .ok (.iload_n 2, 1) := by decide +kernel
theorem dX12_canSet_18 : decode cX12_canSet 18 = .ok (.invokevirtual 155, 3) := by decide +kernel
theorem dX12_canSet_21 : decode cX12_canSet 21 = .ok (.ifCond .ne 5, 3) := by decide +kernel
theorem dX12_canSet_24 : decode cX12_canSet 24 = .ok (.iconst 0, 1) := by decide +kernel
theorem dX12_canSet_25 : decode cX12_canSet 25 = .ok (.ireturn, 1) := by decide +kernel
theorem dX12_canSet_26 : decode cX12_canSet 26 = .ok (.aload_n 0, 1) := by decide +kernel
theorem dX12_canSet_27 : decode cX12_canSet 27 = .ok (.iload_n 3, 1) := by decide +kernel
theorem dX12_canSet_28 : decode cX12_canSet 28 = .ok (.iload_n 1, 1) := by decide +kernel
theorem dX12_canSet_29 : decode cX12_canSet 29 = .ok (.iconst 3, 1) := by decide +kernel
theorem dX12_canSet_30 : decode cX12_canSet 30 = .ok (.if_icmp .eq 14, 3) := by decide +kernel
theorem dX12_canSet_33 : decode cX12_canSet 33 = .ok (.iload_n 1, 1) := by decide +kernel
theorem dX12_canSet_34 : decode cX12_canSet 34 = .ok (.iconst 4, 1) := by decide +kernel
theorem dX12_canSet_35 : decode cX12_canSet 35 = .ok (.if_icmp .eq 9, 3) := by decide +kernel
theorem dX12_canSet_38 : decode cX12_canSet 38 = .ok (.iload_n 1, 1) := by decide +kernel
theorem dX12_canSet_39 : decode cX12_canSet 39 = .ok (.bipush 6, 2) := by decide +kernel
theorem dX12_canSet_41 : decode cX12_canSet 41 = .ok (.if_icmp .ne 7, 3) := by decide +kernel
theorem dX12_canSet_44 : decode cX12_canSet 44 = .ok (.iconst 1, 1) := by decide +kernel
theorem dX12_canSet_45 : decode cX12_canSet 45 = .ok (.goto 4, 3) := by decide +kernel
theorem dX12_canSet_48 : decode cX12_canSet 48 = .ok (.iconst 0, 1) := by decide +kernel
theorem dX12_canSet_49 : decode cX12_canSet 49 = .ok (.aload_n 0, 1) := by decide +kernel
theorem dX12_canSet_50 : decode cX12_canSet 50 = .ok (.iload_n 1, 1) := by decide +kernel
theorem dX12_canSet_51 : decode cX12_canSet 51 = .ok (.invokevirtual 159, 3) := by decide +kernel
theorem dX12_canSet_54 : decode cX12_canSet 54 = .ok (.invokevirtual 151, 3) := by decide +kernel
theorem dX12_canSet_57 : decode cX12_canSet 57 = .ok (.ireturn, 1) := by decide +kernel
theorem dX12_house_0 : decode cX12_house 0 = .ok (.aload_n 0, 1) := by decide +kernel
theorem dX12_house_1 : decode cX12_house 1 = .ok (.iconst 0, 1) := by decide +kernel
theorem dX12_house_2 : decode cX12_house 2 = .ok (.putfield 130, 3) := by decide +kernel
theorem dX12_house_5 : decode cX12_house 5 = .ok (.aload_n 0, 1) := by decide +kernel
theorem dX12_house_6 : decode cX12_house 6 = .ok (.iload_n 1, 1) := by decide +kernel
theorem dX12_house_7 : decode cX12_house 7 = .ok (.iconst 0, 1) := by decide +kernel
theorem dX12_house_8 : decode cX12_house 8 = .ok (.bipush 63, 2) := by decide +kernel
theorem dX12_house_10 : decode cX12_house 10 = .ok (.invokevirtual 151, 3) := by decide +kernel
theorem dX12_house_13 : decode cX12_house 13 = .ok (.ifCond .eq 35, 3) := by decide +kernel
theorem dX12_house_16 : decode cX12_house 16 = .ok (.aload_n 0, 1) := by decide +kernel
theorem dX12_house_17 : decode cX12_house 17 = .ok (.iload_n 2, 1) := by decide +kernel
theorem dX12_house_18 : decode cX12_house 18 = .ok (.iconst 1, 1) := by decide +kernel
theorem dX12_house_19 : decode cX12_house 19 = .ok (.bipush 20, 2) := by decide +kernel
theorem dX12_house_21 : decode cX12_house 21 = .ok (.invokevirtual 151, 3) := by decide +kernel
theorem dX12_house_24 : decode cX12_house 24 = .ok (.ifCond .eq 24, 3) := by decide +kernel
theorem dX12_house_27 : decode cX12_house 27 = .ok (.aload_n 0, 1) := by decide +kernel
theorem dX12_house_28 : decode cX12_house 28 = .ok (.iload_n 3, 1) := by decide +kernel
theorem dX12_house_29 : decode cX12_house 29 = .ok (.iconst 0, 1) := by decide +kernel
theorem dX12_house_30 : decode cX12_house 30 = .ok (.sipush 999, 3) := by decide +kernel
theorem dX12_house_33 : decode cX12_house 33 = .ok (.invokevirtual 151, 3) := by decide +kernel
theorem dX12_house_36 : decode cX12_house 36 = .ok (.ifCond .eq 12, 3) := by decide +kernel
theorem dX12_house_39 : decode cX12_house 39 = .ok (.aload_n 0, 1) := by decide +kernel
theorem dX12_house_40 : decode cX12_house 40 = .ok (.getfield 148, 3) := by decide +kernel
theorem dX12_house_43 : decode cX12_house 43 = .ok (.bipush 10, 2) := by decide +kernel
theorem dX12_house_45 : decode cX12_house 45 = .ok (.if_icmp .ne 5, 3) := by decide +kernel
theorem dX12_house_48 : decode cX12_house 48 = .ok (.iconst (-1), 1) := by decide +kernel
theorem dX12_house_49 : decode cX12_house 49 = .ok (.ireturn, 1) := by decide +kernel
theorem dX12_house_50 : decode cX12_house 50 = .ok (.iconst 0, 1) := by decide +kernel
theorem dX12_house_51 : decode cX12_house 51 = .ok (.istore 4, 2) := by decide +kernel
theorem dX12_house_53 : decode cX12_house 53 = .ok (.iload 4, 2) := by decide +kernel
theorem dX12_house_55 : decode cX12_house 55 = .ok (.aload_n 0, 1) := by decide +kernel
theorem dX12_house_56 : decode cX12_house 56 = .ok (.getfield 148, 3) := by decide +kernel
theorem dX12_house_59 : decode cX12_house 59 = .ok (.if_icmp .ge 22, 3) := by decide +kernel
theorem dX12_house_62 : decode cX12_house 62 = .ok (.aload_n 0, 1) := by decide +kernel
theorem dX12_house_63 : decode cX12_house 63 = .ok (.getfield 19, 3) := by decide +kernel
theorem dX12_house_66 : decode cX12_house 66 = .ok (.iload 4, 2) := by decide +kernel
theorem dX12_house_68 : decode cX12_house 68 = .ok (.iaload, 1) := by decide +kernel
theorem dX12_house_69 : decode cX12_house 69 = .ok (.iload_n 1, 1) := by decide +kernel
theorem dX12_house_70 : decode cX12_house 70 = .ok (.if_icmp .ne 5, 3) := by decide +kernel
theorem dX12_house_73 : decode cX12_house 73 = .ok (.iconst (-1), 1) := by decide +kernel
theorem dX12_house_74 : decode cX12_house 74 = .ok (.ireturn, 1) := by decide +kernel
theorem dX12_house_75 : decode cX12_house 75 = .ok (.iinc 4 1, 3) := by decide +kernel
theorem dX12_house_78 : decode cX12_house 78 = .ok (.goto (-25), 3) := by decide +kernel
theorem dX12_house_81 : decode cX12_house 81 = .ok (.aload_n 0, 1) := by decide +kernel
theorem dX12_house_82 : decode cX12_house 82 = .ok (.getfield 148, 3) := by decide +kernel
theorem dX12_house_85 : decode cX12_house 85 = .ok (.istore 4, 2) := by decide +kernel
theorem dX12_house_87 : decode cX12_house 87 = .ok (.aload_n 0, 1) := by decide +kernel
theorem dX12_house_88 : decode cX12_house 88 = .ok (.getfield 19, 3) := by decide +kernel
theorem dX12_house_91 : decode cX12_house 91 = .ok (.iload 4, 2) := by decide +kernel
theorem dX12_house_93 : decode cX12_house 93 = .ok (.iload_n 1, 1) := by decide +kernel
theorem dX12_house_94 : decode cX12_house 94 = .ok (.iastore, 1) := by decide +kernel
theorem dX12_house_95 : decode cX12_house 95 = .ok (.aload_n 0, 1) := by decide +kernel
theorem dX12_house_96 : decode cX12_house 96 = .ok (.getfield 22, 3) := by decide +kernel
theorem dX12_house_99 : decode cX12_house 99 = .ok (.iload 4, 2) := by decide +kernel
theorem dX12_house_101 : decode cX12_house 101 = .ok (.iload_n 2, 1) := by decide +kernel
theorem dX12_house_102 : decode cX12_house 102 = .ok (.iastore, 1) := by decide +kernel
theorem dX12_house_103 : decode cX12_house 103 = .ok (.aload_n 0, 1) := by decide +kernel
theorem dX12_house_104 : decode cX12_house 104 = .ok (.getfield 25, 3) := by decide +kernel
theorem dX12_house_107 : decode cX12_house 107 = .ok (.iload 4, 2) := by decide +kernel
theorem dX12_house_109 : decode cX12_house 109 = .ok (.iconst 0, 1) := by decide +kernel
theorem dX12_house_110 : decode cX12_house 110 = .ok (.iastore, 1) := by decide +kernel
theorem dX12_house_111 : decode cX12_house 111 = .ok (.aload_n 0, 1) := by decide +kernel
theorem dX12_house_112 : decode cX12_house 112 = .ok (.getfield 28, 3) := by decide +kernel
theorem dX12_house_115 : decode cX12_house 115 = .ok (.iload 4, 2) := by decide +kernel
theorem dX12_house_117 : decode cX12_house 117 = .ok (.iconst 0, 1) := by decide +kernel
theorem dX12_house_118 : decode cX12_house 118 = .ok (.iastore, 1) := by decide +kernel
theorem dX12_house_119 : decode cX12_house 119 = .ok (.aload_n 0, 1) := by decide +kernel
theorem dX12_house_120 : decode cX12_house 120 = .ok (.getfield 31, 3) := by decide +kernel
theorem dX12_house_123 : decode cX12_house 123 = .ok (.iload 4, 2) := by decide +kernel
theorem dX12_house_125 : decode cX12_house 125 = .ok (.iconst 0, 1) := by decide +kernel
theorem dX12_house_126 : decode cX12_house 126 = .ok (.iastore, 1) := by decide +kernel
theorem dX12_house_127 : decode cX12_house 127 = .ok (.aload_n 0, 1) := by decide +kernel
theorem dX12_house_128 : decode cX12_house 128 = .ok (.getfield 7, 3) := by decide +kernel
theorem dX12_house_131 : decode cX12_house 131 = .ok (.bipush 6, 2) := by decide +kernel
theorem dX12_house_133 : decode cX12_house 133 = .ok (.iload 4, 2) := by decide +kernel
theorem dX12_house_135 : decode cX12_house 135 = .ok (.iadd, 1) := by decide +kernel
theorem dX12_house_136 : decode cX12_house 136 = .ok (.iload_n 3, 1) := by decide +kernel
theorem dX12_house_137 : decode cX12_house 137 = .ok (.iastore, 1) := by decide +kernel
theorem dX12_house_138 : decode cX12_house 138 = .ok (.aload_n 0, 1) := by decide +kernel
theorem dX12_house_139 : decode cX12_house 139 = .ok (.getfield 7, 3) := by decide +kernel
theorem dX12_house_142 : decode cX12_house 142 = .ok (.bipush 16, 2) := by decide +kernel
theorem dX12_house_144 : decode cX12_house 144 = .ok (.iload 4, 2) := by decide +kernel
theorem dX12_house_146 : decode cX12_house 146 = .ok (.iadd, 1) := by decide +kernel
theorem dX12_house_147 : decode cX12_house 147 = .ok (.iconst 0, 1) := by decide +kernel
theorem dX12_house_148 : decode cX12_house 148 = .ok (.iastore, 1) := by decide +kernel
theorem dX12_house_149 : decode cX12_house 149 = .ok (.aload_n 0, 1) := by decide +kernel
theorem dX12_house_150 : decode cX12_house 150 = .ok (.getfield 7, 3) := by decide +kernel
theorem dX12_house_153 : decode cX12_house 153 = .ok (.bipush 26, 2) := by decide +kernel
theorem dX12_house_155 : decode cX12_house 155 = .ok (.iload 4, 2) := by decide +kernel
theorem dX12_house_157 : decode cX12_house 157 = .ok (.iadd, 1) := by decide +kernel
theorem dX12_house_158 : decode cX12_house 158 = .ok (.iconst 0, 1) := by decide +kernel
theorem dX12_house_159 : decode cX12_house 159 = .ok (.iastore, 1) := by decide +kernel
theorem dX12_house_160 : decode cX12_house 160 = .ok (.aload_n 0, 1) := by decide +kernel
theorem dX12_house_161 : decode cX12_house 161 = .ok (.getfield 7, 3) := by decide +kernel
theorem dX12_house_164 : decode cX12_house 164 = .ok (.bipush 36, 2) := by decide +kernel
theorem dX12_house_166 : decode cX12_house 166 = .ok (.iload 4, 2) := by decide +kernel
theorem dX12_house_168 : decode cX12_house 168 = .ok (.iadd, 1) := by decide +kernel
theorem dX12_house_169 : decode cX12_house 169 = .ok (.iconst 0, 1) := by decide +kernel
theorem dX12_house_170 : decode cX12_house 170 = .ok (.iastore, 1) := by decide +kernel
theorem dX12_house_171 : decode cX12_house 171 = .ok (.aload_n 0, 1) := by decide +kernel
theorem dX12_house_172 : decode cX12_house 172 = .ok (.aload_n 0, 1) := by decide +kernel
theorem dX12_house_173 : decode cX12_house 173 = .ok (.getfield 148, 3) := by decide +kernel
theorem dX12_house_176 : decode cX12_house 176 = .ok (.iconst 1, 1) := by decide +kernel
theorem dX12_house_177 : decode cX12_house 177 = .ok (.iadd, 1) := by decide +kernel
theorem dX12_house_178 : decode cX12_house 178 = .ok (.putfield 148, 3) := by decide +kernel
theorem dX12_house_181 : decode cX12_house 181 = .ok (.aload_n 0, 1) := by decide +kernel
theorem dX12_house_182 : decode cX12_house 182 = .ok (.iconst 0, 1) := by decide +kernel
theorem dX12_house_183 : decode cX12_house 183 = .ok (.putfield 133, 3) := by decide +kernel
theorem dX12_house_186 : decode cX12_house 186 = .ok (.iload 4, 2) := by decide +kernel
theorem dX12_house_188 : decode cX12_house 188 = .ok (.ireturn, 1) := by decide +kernel
theorem dX12_set_0 : decode cX12_set 0 = .ok (.aload_n 0, 1) := by decide +kernel
theorem dX12_set_1 : decode cX12_set 1 = .ok (.iconst 0, 1) := by decide +kernel
theorem dX12_set_2 : decode cX12_set 2 = .ok (.putfield 130, 3) := by decide +kernel
theorem dX12_set_5 : decode cX12_set 5 = .ok (.aload_n 0, 1) := by decide +kernel
theorem dX12_set_6 : decode cX12_set 6 = .ok (.iload_n 1, 1) := by decide +kernel
theorem dX12_set_7 : decode cX12_set 7 = .ok (.iload_n 2, 1) := by decide +kernel
theorem dX12_set_8 : decode cX12_set 8 = .ok (.iload_n 3, 1) := by decide +kernel
theorem dX12_set_9 : decode cX12_set 9 = .ok (.invokevirtual 163, 3) := by decide +kernel
theorem dX12_set_12 : decode cX12_set 12 = .ok (.ifCond .ne 5, 3) := by decide +kernel
theorem dX12_set_15 : decode cX12_set 15 = .ok (.iconst 0, 1) := by decide +kernel
theorem dX12_set_16 : decode cX12_set 16 = .ok (.ireturn, 1) := by decide +kernel
theorem dX12_set_17 : decode cX12_set 17 = .ok (.iload_n 1, 1) := by decide +kernel
theorem dX12_set_18 : decode cX12_set 18 = .ok (.ifCond .ne 10, 3) := by decide +kernel
theorem dX12_set_21 : decode cX12_set 21 = .ok (.aload_n 0, 1) := by decide +kernel
theorem dX12_set_22 : decode cX12_set 22 = .ok (.getfield 7, 3) := by decide +kernel
theorem dX12_set_25 : decode cX12_set 25 = .ok (.iconst 4, 1) := by decide +kernel
theorem dX12_set_26 : decode cX12_set 26 = .ok (.iload_n 3, 1) := by decide +kernel
theorem dX12_set_27 : decode cX12_set 27 = .ok (.iastore, 1) := by decide +kernel
theorem dX12_set_28 : decode cX12_set 28 = .ok (.iload_n 1, 1) := by decide +kernel
theorem dX12_set_29 : decode cX12_set 29 = .ok (.iconst 1, 1) := by decide +kernel
theorem dX12_set_30 : decode cX12_set 30 = .ok (.if_icmp .ne 8, 3) := by decide +kernel
theorem dX12_set_33 : decode cX12_set 33 = .ok (.aload_n 0, 1) := by decide +kernel
theorem dX12_set_34 : decode cX12_set 34 = .ok (.iload_n 3, 1) := by decide +kernel
theorem dX12_set_35 : decode cX12_set 35 = .ok (.putfield 166, 3) := by decide +kernel
theorem dX12_set_38 : decode cX12_set 38 = .ok (.iload_n 1, 1) := by decide +kernel
theorem dX12_set_39 : decode cX12_set 39 = .ok (.iconst 2, 1) := by decide +kernel
theorem dX12_set_40 : decode cX12_set 40 = .ok (.if_icmp .ne 8, 3) := by decide +kernel
theorem dX12_set_43 : decode cX12_set 43 = .ok (.aload_n 0, 1) := by decide +kernel
theorem dX12_set_44 : decode cX12_set 44 = .ok (.iload_n 3, 1) := by decide +kernel
theorem dX12_set_45 : decode cX12_set 45 = .ok (.putfield 169, 3) := by decide +kernel
theorem dX12_set_48 : decode cX12_set 48 = .ok (.iload_n 1, 1) := by decide +kernel
theorem dX12_set_49 : decode cX12_set 49 = .ok (.iconst 3, 1) := by decide +kernel
theorem dX12_set_50 : decode cX12_set 50 = .ok (.if_icmp .ne 11, 3) := by decide +kernel
theorem dX12_set_53 : decode cX12_set 53 = .ok (.aload_n 0, 1) := by decide +kernel
theorem dX12_set_54 : decode cX12_set 54 = .ok (.iload_n 3, 1) := by decide +kernel
theorem dX12_set_55 : decode cX12_set 55 = .ok (.bipush 20, 2) := by decide +kernel
theorem dX12_set_57 : decode cX12_set 57 = .ok (.isub, 1) := by decide +kernel
theorem dX12_set_58 : decode cX12_set 58 = .ok (.putfield 142, 3) := by decide +kernel
theorem dX12_set_61 : decode cX12_set 61 = .ok (.iload_n 1, 1) := by decide +kernel
theorem dX12_set_62 : decode cX12_set 62 = .ok (.iconst 4, 1) := by decide +kernel
theorem dX12_set_63 : decode cX12_set 63 = .ok (.if_icmp .ne 11, 3) := by decide +kernel
theorem dX12_set_66 : decode cX12_set 66 = .ok (.aload_n 0, 1) := by decide +kernel
theorem dX12_set_67 : decode cX12_set 67 = .ok (.iload_n 3, 1) := by decide +kernel
theorem dX12_set_68 : decode cX12_set 68 = .ok (.bipush 30, 2) := by decide +kernel
theorem dX12_set_70 : decode cX12_set 70 = .ok (.isub, 1) := by decide +kernel
theorem dX12_set_71 : decode cX12_set 71 = .ok (.putfield 145, 3) := by decide +kernel
theorem dX12_set_74 : decode cX12_set 74 = .ok (.iload_n 1, 1) := by decide +kernel
theorem dX12_set_75 : decode cX12_set 75 = .ok (.iconst 5, 1) := by decide +kernel
theorem dX12_set_76 : decode cX12_set 76 = .ok (.if_icmp .ne 10, 3) := by decide +kernel
theorem dX12_set_79 : decode cX12_set 79 = .ok (.aload_n 0, 1) := by decide +kernel
theorem dX12_set_80 : decode cX12_set 80 = .ok (.getfield 7, 3) := by decide +kernel
theorem dX12_set_83 : decode cX12_set 83 = .ok (.iconst 3, 1) := by decide +kernel
theorem dX12_set_84 : decode cX12_set 84 = .ok (.iload_n 3, 1) := by decide +kernel
theorem dX12_set_85 : decode cX12_set 85 = .ok (.iastore, 1) := by decide +kernel
theorem dX12_set_86 : decode cX12_set 86 = .ok (.iload_n 1, 1) := by decide +kernel
theorem dX12_set_87 : decode cX12_set 87 = .ok (.bipush 6, 2) := by decide +kernel
theorem dX12_set_89 : decode cX12_set 89 = .ok (.if_icmp .ne 10, 3) := by decide +kernel
theorem dX12_set_92 : decode cX12_set 92 = .ok (.aload_n 0, 1) := by decide +kernel
theorem dX12_set_93 : decode cX12_set 93 = .ok (.getfield 22, 3) := by decide +kernel
theorem dX12_set_96 : decode cX12_set 96 = .ok (.iload_n 2, 1) := by decide +kernel
theorem dX12_set_97 : decode cX12_set 97 = .ok (.iload_n 3, 1) := by decide +kernel
theorem dX12_set_98 : decode cX12_set 98 = .ok (.iastore, 1) := by decide +kernel
theorem dX12_set_99 : decode cX12_set 99 = .ok (.iload_n 1, 1) := by decide +kernel
theorem dX12_set_100 : decode cX12_set 100 = .ok (.bipush 7, 2) := by decide +kernel
theorem dX12_set_102 : decode cX12_set 102 = .ok (.if_icmp .ne 13, 3) := by decide +kernel
theorem dX12_set_105 : decode cX12_set 105 = .ok (.aload_n 0, 1) := by decide +kernel
theorem dX12_set_106 : decode cX12_set 106 = .ok (.getfield 7, 3) := by decide +kernel
theorem dX12_set_109 : decode cX12_set 109 = .ok (.bipush 6, 2) := by decide +kernel
theorem dX12_set_111 : decode cX12_set 111 = .ok (.iload_n 2, 1) := by decide +kernel
theorem dX12_set_112 : decode cX12_set 112 = .ok (.iadd, 1) := by decide +kernel
theorem dX12_set_113 : decode cX12_set 113 = .ok (.iload_n 3, 1) := by decide +kernel
theorem dX12_set_114 : decode cX12_set 114 = .ok (.iastore, 1) := by decide +kernel
theorem dX12_set_115 : decode cX12_set 115 = .ok (.iload_n 1, 1) := by decide +kernel
theorem dX12_set_116 : decode cX12_set 116 = .ok (.bipush 8, 2) := by decide +kernel
theorem dX12_set_118 : decode cX12_set 118 = .ok (.if_icmp .ne 13, 3) := by decide +kernel
theorem dX12_set_121 : decode cX12_set 121 = .ok (.aload_n 0, 1) := by decide +kernel
theorem dX12_set_122 : decode cX12_set 122 = .ok (.getfield 7, 3) := by decide +kernel
theorem dX12_set_125 : decode cX12_set 125 = .ok (.bipush 16, 2) := by decide +kernel
theorem dX12_set_127 : decode cX12_set 127 = .ok (.iload_n 2, 1) := by decide +kernel
theorem dX12_set_128 : decode cX12_set 128 = .ok (.iadd, 1) := by decide +kernel
theorem dX12_set_129 : decode cX12_set 129 = .ok (.iload_n 3, 1) := by decide +kernel
theorem dX12_set_130 : decode cX12_set 130 = .ok (.iastore, 1) := by decide +kernel
theorem dX12_set_131 : decode cX12_set 131 = .ok (.iload_n 1, 1) := by decide +kernel
theorem dX12_set_132 : decode cX12_set 132 = .ok (.bipush 9, 2) := by decide +kernel
theorem dX12_set_134 : decode cX12_set 134 = .ok (.if_icmp .ne 10, 3) := by decide +kernel
theorem dX12_set_137 : decode cX12_set 137 = .ok (.aload_n 0, 1) := by decide +kernel
theorem dX12_set_138 : decode cX12_set 138 = .ok (.getfield 25, 3) := by decide +kernel
theorem dX12_set_141 : decode cX12_set 141 = .ok (.iload_n 2, 1) := by decide +kernel
theorem dX12_set_142 : decode cX12_set 142 = .ok (.iload_n 3, 1) := by decide +kernel
theorem dX12_set_143 : decode cX12_set 143 = .ok (.iastore, 1) := by decide +kernel
theorem dX12_set_144 : decode cX12_set 144 = .ok (.iload_n 1, 1) := by decide +kernel
theorem dX12_set_145 : decode cX12_set 145 = .ok (.bipush 10, 2) := by decide +kernel
theorem dX12_set_147 : decode cX12_set 147 = .ok (.if_icmp .ne 10, 3) := by decide +kernel
theorem dX12_set_150 : decode cX12_set 150 = .ok (.aload_n 0, 1) := by decide +kernel
theorem dX12_set_151 : decode cX12_set 151 = .ok (.getfield 28, 3) := by decide +kernel
theorem dX12_set_154 : decode cX12_set 154 = .ok (.iload_n 2, 1) := by decide +kernel
theorem dX12_set_155 : decode cX12_set 155 = .ok (.iload_n 3, 1) := by decide +kernel
theorem dX12_set_156 : decode cX12_set 156 = .ok (.iastore, 1) := by decide +kernel
theorem dX12_set_157 : decode cX12_set 157 = .ok (.aload_n 0, 1) := by decide +kernel
theorem dX12_set_158 : decode cX12_set 158 = .ok (.iconst 0, 1) := by decide +kernel
theorem dX12_set_159 : decode cX12_set 159 = .ok (.putfield 133, 3) := by decide +kernel
theorem dX12_set_162 : decode cX12_set 162 = .ok (.iconst 1, 1) := by decide +kernel
theorem dX12_set_163 : decode cX12_set 163 = .ok (.ireturn, 1) := by decide +kernel
theorem q_1630 : Cond.methodLink RX12 163 yX12_canSet ∈ GW := inG 1630 (by decide +kernel) (by decide +kernel)
theorem q_1632 : Cond.instanceMethod yX12_canSet ∈ GW := inG 1632 (by decide +kernel) (by decide +kernel)
theorem q_1633 : Cond.code yX12_canSet cX12_canSet 4 (some .boolean) ∈ GW := inG 1633 (by decide +kernel) (by decide +kernel)
theorem q_1638 : Cond.methodLink RX12 159 yX12_mostOf ∈ GW := inG 1638 (by decide +kernel) (by decide +kernel)
theorem q_1640 : Cond.instanceMethod yX12_mostOf ∈ GW := inG 1640 (by decide +kernel) (by decide +kernel)
theorem q_1641 : Cond.code yX12_mostOf cX12_mostOf 2 (some .int) ∈ GW := inG 1641 (by decide +kernel) (by decide +kernel)
theorem q_47 : Cond.selects RX12 yX12_canSet yX12_canSet ∈ GW := inG 47 (by decide +kernel) (by decide +kernel)
theorem q_49 : Cond.selects RX12 yX12_mostOf yX12_mostOf ∈ GW := inG 49 (by decide +kernel) (by decide +kernel)
theorem hdV_X12_canSet : yX12_canSet.cls = RX12 ∧ yX12_canSet.cls ≠ "java/lang/invoke/MethodHandle" ∧ yX12_canSet.cls ≠ "java/lang/invoke/VarHandle" ∧ (parseMethodDescriptor yX12_canSet.desc).map (fun d => d.parameters.length) = some 3 := by decide +kernel
theorem hdV_X12_mostOf : yX12_mostOf.cls = RX12 ∧ yX12_mostOf.cls ≠ "java/lang/invoke/MethodHandle" ∧ yX12_mostOf.cls ≠ "java/lang/invoke/VarHandle" ∧ (parseMethodDescriptor yX12_mostOf.desc).map (fun d => d.parameters.length) = some 1 := by decide +kernel
