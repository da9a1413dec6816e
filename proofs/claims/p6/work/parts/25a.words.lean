theorem dX12_house_0 : decode cX12_house 0 = .ok (.aload_n 0, 1) := by decide +kernel
theorem dX12_house_1 : decode cX12_house 1 = .ok (.iconst 0, 1) := by decide +kernel
theorem dX12_house_2 : decode cX12_house 2 = .ok (.putfield 130, 3) := by decide +kernel
theorem dX12_house_5 : decode cX12_house 5 = .ok (.aload_n 0, 1) := by decide +kernel
theorem dX12_house_6 : decode cX12_house 6 = .ok (.iload_n 1, 1) := by decide +kernel
theorem dX12_house_7 : decode cX12_house 7 = .ok (.iconst 0, 1) := by decide +kernel
theorem dX12_house_8 : decode cX12_house 8 = .ok (.bipush 63, 2) := by decide +kernel
theorem dX12_house_10 : decode cX12_house 10 = .ok (.invokevirtual 151, 3) := by decide +kernel
theorem dX12_house_13 : decode cX12_house 13 = .ok (.ifCond .eq 35, 3) := by decide +kernel
theorem dX12_house_16 : decode cX12_house 16 = .ok (.aload_n 0, 1) := by decide +kernel
theorem dX12_house_17 : decode cX12_house 17 = .ok (.iload_n 2, 1) := by decide +kernel
theorem dX12_house_18 : decode cX12_house 18 = .ok (.iconst 1, 1) := by decide +kernel
theorem dX12_house_19 : decode cX12_house 19 = .ok (.bipush 20, 2) := by decide +kernel
theorem dX12_house_21 : decode cX12_house 21 = .ok (.invokevirtual 151, 3) := by decide +kernel
theorem dX12_house_24 : decode cX12_house 24 = .ok (.ifCond .eq 24, 3) := by decide +kernel
theorem dX12_house_27 : decode cX12_house 27 = .ok (.aload_n 0, 1) := by decide +kernel
theorem dX12_house_28 : decode cX12_house 28 = .ok (.iload_n 3, 1) := by decide +kernel
theorem dX12_house_29 : decode cX12_house 29 = .ok (.iconst 0, 1) := by decide +kernel
theorem dX12_house_30 : decode cX12_house 30 = .ok (.sipush 999, 3) := by decide +kernel
theorem dX12_house_33 : decode cX12_house 33 = .ok (.invokevirtual 151, 3) := by decide +kernel
theorem dX12_house_36 : decode cX12_house 36 = .ok (.ifCond .eq 12, 3) := by decide +kernel
theorem dX12_house_39 : decode cX12_house 39 = .ok (.aload_n 0, 1) := by decide +kernel
theorem dX12_house_40 : decode cX12_house 40 = .ok (.getfield 148, 3) := by decide +kernel
theorem dX12_house_43 : decode cX12_house 43 = .ok (.bipush 10, 2) := by decide +kernel
theorem dX12_house_45 : decode cX12_house 45 = .ok (.if_icmp .ne 5, 3) := by decide +kernel
theorem dX12_house_48 : decode cX12_house 48 = .ok (.iconst (-1), 1) := by decide +kernel
theorem dX12_house_49 : decode cX12_house 49 = .ok (.ireturn, 1) := by decide +kernel
theorem dX12_house_50 : decode cX12_house 50 = .ok (.iconst 0, 1) := by decide +kernel
theorem dX12_house_51 : decode cX12_house 51 = .ok (.istore 4, 2) := by decide +kernel
theorem dX12_house_53 : decode cX12_house 53 = .ok (.iload 4, 2) := by decide +kernel
theorem dX12_house_55 : decode cX12_house 55 = .ok (.aload_n 0, 1) := by decide +kernel
theorem dX12_house_56 : decode cX12_house 56 = .ok (.getfield 148, 3) := by decide +kernel
theorem dX12_house_59 : decode cX12_house 59 = .ok (.if_icmp .ge 22, 3) := by decide +kernel
theorem dX12_house_62 : decode cX12_house 62 = .ok (.aload_n 0, 1) := by decide +kernel
theorem dX12_house_63 : decode cX12_house 63 = .ok (.getfield 19, 3) := by decide +kernel
theorem dX12_house_66 : decode cX12_house 66 = .ok (.iload 4, 2) := by decide +kernel
theorem dX12_house_68 : decode cX12_house 68 = .ok (.iaload, 1) := by decide +kernel
theorem dX12_house_69 : decode cX12_house 69 = .ok (.iload_n 1, 1) := by decide +kernel
theorem dX12_house_70 : decode cX12_house 70 = .ok (.if_icmp .ne 5, 3) := by decide +kernel
theorem dX12_house_73 : decode cX12_house 73 = .ok (.iconst (-1), 1) := by decide +kernel
theorem dX12_house_74 : decode cX12_house 74 = .ok (.ireturn, 1) := by decide +kernel
theorem dX12_house_75 : decode cX12_house 75 = .ok (.iinc 4 1, 3) := by decide +kernel
theorem dX12_house_78 : decode cX12_house 78 = .ok (.goto (-25), 3) := by decide +kernel
theorem dX12_house_81 : decode cX12_house 81 = .ok (.aload_n 0, 1) := by decide +kernel
theorem dX12_house_82 : decode cX12_house 82 = .ok (.getfield 148, 3) := by decide +kernel
theorem dX12_house_85 : decode cX12_house 85 = .ok (.istore 4, 2) := by decide +kernel
theorem dX12_house_87 : decode cX12_house 87 = .ok (.aload_n 0, 1) := by decide +kernel
theorem dX12_house_88 : decode cX12_house 88 = .ok (.getfield 19, 3) := by decide +kernel
theorem dX12_house_91 : decode cX12_house 91 = .ok (.iload 4, 2) := by decide +kernel
theorem dX12_house_93 : decode cX12_house 93 = .ok (.iload_n 1, 1) := by decide +kernel
theorem dX12_house_94 : decode cX12_house 94 = .ok (.iastore, 1) := by decide +kernel
theorem dX12_house_95 : decode cX12_house 95 = .ok (.aload_n 0, 1) := by decide +kernel
theorem dX12_house_96 : decode cX12_house 96 = .ok (.getfield 22, 3) := by decide +kernel
theorem dX12_house_99 : decode cX12_house 99 = .ok (.iload 4, 2) := by decide +kernel
theorem dX12_house_101 : decode cX12_house 101 = .ok (.iload_n 2, 1) := by decide +kernel
theorem dX12_house_102 : decode cX12_house 102 = .ok (.iastore, 1) := by decide +kernel
theorem dX12_house_103 : decode cX12_house 103 = .ok (.aload_n 0, 1) := by decide +kernel
theorem dX12_house_104 : decode cX12_house 104 = .ok (.getfield 25, 3) := by decide +kernel
theorem dX12_house_107 : decode cX12_house 107 = .ok (.iload 4, 2) := by decide +kernel
theorem dX12_house_109 : decode cX12_house 109 = .ok (.iconst 0, 1) := by decide +kernel
theorem dX12_house_110 : decode cX12_house 110 = .ok (.iastore, 1) := by decide +kernel
theorem dX12_house_111 : decode cX12_house 111 = .ok (.aload_n 0, 1) := by decide +kernel
theorem dX12_house_112 : decode cX12_house 112 = .ok (.getfield 28, 3) := by decide +kernel
theorem dX12_house_115 : decode cX12_house 115 = .ok (.iload 4, 2) := by decide +kernel
theorem dX12_house_117 : decode cX12_house 117 = .ok (.iconst 0, 1) := by decide +kernel
theorem dX12_house_118 : decode cX12_house 118 = .ok (.iastore, 1) := by decide +kernel
theorem dX12_house_119 : decode cX12_house 119 = .ok (.aload_n 0, 1) := by decide +kernel
theorem dX12_house_120 : decode cX12_house 120 = .ok (.getfield 31, 3) := by decide +kernel
theorem dX12_house_123 : decode cX12_house 123 = .ok (.iload 4, 2) := by decide +kernel
theorem dX12_house_125 : decode cX12_house 125 = .ok (.iconst 0, 1) := by decide +kernel
theorem dX12_house_126 : decode cX12_house 126 = .ok (.iastore, 1) := by decide +kernel
theorem dX12_house_127 : decode cX12_house 127 = .ok (.aload_n 0, 1) := by decide +kernel
theorem dX12_house_128 : decode cX12_house 128 = .ok (.getfield 7, 3) := by decide +kernel
theorem dX12_house_131 : decode cX12_house 131 = .ok (.bipush 6, 2) := by decide +kernel
theorem dX12_house_133 : decode cX12_house 133 = .ok (.iload 4, 2) := by decide +kernel
theorem dX12_house_135 : decode cX12_house 135 = .ok (.iadd, 1) := by decide +kernel
theorem dX12_house_136 : decode cX12_house 136 = .ok (.iload_n 3, 1) := by decide +kernel
theorem dX12_house_137 : decode cX12_house 137 = .ok (.iastore, 1) := by decide +kernel
theorem dX12_house_138 : decode cX12_house 138 = .ok (.aload_n 0, 1) := by decide +kernel
theorem dX12_house_139 : decode cX12_house 139 = .ok (.getfield 7, 3) := by decide +kernel
theorem dX12_house_142 : decode cX12_house 142 = .ok (.bipush 16, 2) := by decide +kernel
theorem dX12_house_144 : decode cX12_house 144 = .ok (.iload 4, 2) := by decide +kernel
theorem dX12_house_146 : decode cX12_house 146 = .ok (.iadd, 1) := by decide +kernel
theorem dX12_house_147 : decode cX12_house 147 = .ok (.iconst 0, 1) := by decide +kernel
theorem dX12_house_148 : decode cX12_house 148 = .ok (.iastore, 1) := by decide +kernel
theorem dX12_house_149 : decode cX12_house 149 = .ok (.aload_n 0, 1) := by decide +kernel
theorem dX12_house_150 : decode cX12_house 150 = .ok (.getfield 7, 3) := by decide +kernel
theorem dX12_house_153 : decode cX12_house 153 = .ok (.bipush 26, 2) := by decide +kernel
theorem dX12_house_155 : decode cX12_house 155 = .ok (.iload 4, 2) := by decide +kernel
theorem dX12_house_157 : decode cX12_house 157 = .ok (.iadd, 1) := by decide +kernel
theorem dX12_house_158 : decode cX12_house 158 = .ok (.iconst 0, 1) := by decide +kernel
theorem dX12_house_159 : decode cX12_house 159 = .ok (.iastore, 1) := by decide +kernel
theorem dX12_house_160 : decode cX12_house 160 = .ok (.aload_n 0, 1) := by decide +kernel
theorem dX12_house_161 : decode cX12_house 161 = .ok (.getfield 7, 3) := by decide +kernel
theorem dX12_house_164 : decode cX12_house 164 = .ok (.bipush 36, 2) := by decide +kernel
theorem dX12_house_166 : decode cX12_house 166 = .ok (.iload 4, 2) := by decide +kernel
theorem dX12_house_168 : decode cX12_house 168 = .ok (.iadd, 1) := by decide +kernel
theorem dX12_house_169 : decode cX12_house 169 = .ok (.iconst 0, 1) := by decide +kernel
theorem dX12_house_170 : decode cX12_house 170 = .ok (.iastore, 1) := by decide +kernel
theorem dX12_house_171 : decode cX12_house 171 = .ok (.aload_n 0, 1) := by decide +kernel
theorem dX12_house_172 : decode cX12_house 172 = .ok (.aload_n 0, 1) := by decide +kernel
theorem dX12_house_173 : decode cX12_house 173 = .ok (.getfield 148, 3) := by decide +kernel
theorem dX12_house_176 : decode cX12_house 176 = .ok (.iconst 1, 1) := by decide +kernel
theorem dX12_house_177 : decode cX12_house 177 = .ok (.iadd, 1) := by decide +kernel
theorem dX12_house_178 : decode cX12_house 178 = .ok (.putfield 148, 3) := by decide +kernel
theorem dX12_house_181 : decode cX12_house 181 = .ok (.aload_n 0, 1) := by decide +kernel
theorem dX12_house_182 : decode cX12_house 182 = .ok (.iconst 0, 1) := by decide +kernel
theorem dX12_house_183 : decode cX12_house 183 = .ok (.putfield 133, 3) := by decide +kernel
theorem dX12_house_186 : decode cX12_house 186 = .ok (.iload 4, 2) := by decide +kernel
theorem dX12_house_188 : decode cX12_house 188 = .ok (.ireturn, 1) := by decide +kernel
