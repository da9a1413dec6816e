theorem dX12_goesBy_0 : decode cX12_goesBy 0 = .ok (.aload_n 0, 1) := by decide +kernel
theorem dX12_goesBy_1 : decode cX12_goesBy 1 = .ok (.aload_n 0, 1) := by decide +kernel
theorem dX12_goesBy_2 : decode cX12_goesBy 2 = .ok (.getfield 7, 3) := by decide +kernel
theorem dX12_goesBy_5 : decode cX12_goesBy 5 = .ok (.iconst 4, 1) := by decide +kernel
theorem dX12_goesBy_6 : decode cX12_goesBy 6 = .ok (.iaload, 1) := by decide +kernel
theorem dX12_goesBy_7 : decode cX12_goesBy 7 = .ok (.invokevirtual 353, 3) := by decide +kernel
theorem dX12_goesBy_10 : decode cX12_goesBy 10 = .ok (.aload_n 0, 1) := by decide +kernel
theorem dX12_goesBy_11 : decode cX12_goesBy 11 = .ok (.getfield 7, 3) := by decide +kernel
theorem dX12_goesBy_14 : decode cX12_goesBy 14 = .ok (.iconst 3, 1) := by decide +kernel
theorem dX12_goesBy_15 : decode cX12_goesBy 15 = .ok (.aload_n 0, 1) := by decide +kernel
theorem dX12_goesBy_16 : decode cX12_goesBy 16 = .ok (.getfield 7, 3) := by decide +kernel
theorem dX12_goesBy_19 : decode cX12_goesBy 19 = .ok (.iconst 5, 1) := by decide +kernel
theorem dX12_goesBy_20 : decode cX12_goesBy 20 = .ok (.iaload, 1) := by decide +kernel
theorem dX12_goesBy_21 : decode cX12_goesBy 21 = .ok (.aload_n 0, 1) := by decide +kernel
theorem dX12_goesBy_22 : decode cX12_goesBy 22 = .ok (.getfield 327, 3) := by decide +kernel
theorem dX12_goesBy_25 : decode cX12_goesBy 25 = .ok (.if_icmp .ge 10, 3) := by decide +kernel
theorem dX12_goesBy_28 : decode cX12_goesBy 28 = .ok (.aload_n 0, 1) := by decide +kernel
theorem dX12_goesBy_29 : decode cX12_goesBy 29 = .ok (.invokevirtual 390, 3) := by decide +kernel
theorem dX12_goesBy_32 : decode cX12_goesBy 32 = .ok (.goto 7, 3) := by decide +kernel
theorem dX12_goesBy_35 : decode cX12_goesBy 35 = .ok (.aload_n 0, 1) := by decide +kernel
theorem dX12_goesBy_36 : decode cX12_goesBy 36 = .ok (.invokevirtual 393, 3) := by decide +kernel
theorem dX12_goesBy_39 : decode cX12_goesBy 39 = .ok (.iastore, 1) := by decide +kernel
theorem dX12_goesBy_40 : decode cX12_goesBy 40 = .ok (.aload_n 0, 1) := by decide +kernel
theorem dX12_goesBy_41 : decode cX12_goesBy 41 = .ok (.getfield 7, 3) := by decide +kernel
theorem dX12_goesBy_44 : decode cX12_goesBy 44 = .ok (.iconst 3, 1) := by decide +kernel
theorem dX12_goesBy_45 : decode cX12_goesBy 45 = .ok (.iaload, 1) := by decide +kernel
theorem dX12_goesBy_46 : decode cX12_goesBy 46 = .ok (.istore_n 1, 1) := by decide +kernel
theorem dX12_goesBy_47 : decode cX12_goesBy 47 = .ok (.aload_n 0, 1) := by decide +kernel
theorem dX12_goesBy_48 : decode cX12_goesBy 48 = .ok (.iload_n 1, 1) := by decide +kernel
theorem dX12_goesBy_49 : decode cX12_goesBy 49 = .ok (.invokevirtual 396, 3) := by decide +kernel
theorem dX12_goesBy_52 : decode cX12_goesBy 52 = .ok (.istore_n 2, 1) := by decide +kernel
theorem dX12_goesBy_53 : decode cX12_goesBy 53 = .ok (.aload_n 0, 1) := by decide +kernel
theorem dX12_goesBy_54 : decode cX12_goesBy 54 = .ok (.getfield 7, 3) := by decide +kernel
theorem dX12_goesBy_57 : decode cX12_goesBy 57 = .ok (.bipush 6, 2) := by decide +kernel
theorem dX12_goesBy_59 : decode cX12_goesBy 59 = .ok (.iload_n 1, 1) := by decide +kernel
theorem dX12_goesBy_60 : decode cX12_goesBy 60 = .ok (.iadd, 1) := by decide +kernel
theorem dX12_goesBy_61 : decode cX12_goesBy 61 = .ok (.iaload, 1) := by decide +kernel
theorem dX12_goesBy_62 : decode cX12_goesBy 62 = .ok (.iload_n 2, 1) := by decide +kernel
theorem dX12_goesBy_63 : decode cX12_goesBy 63 = .ok (.if_icmp .lt 7, 3) := by decide +kernel
theorem dX12_goesBy_66 : decode cX12_goesBy 66 = .ok (.iconst 1, 1) := by decide +kernel
theorem dX12_goesBy_67 : decode cX12_goesBy 67 = .ok (.goto 4, 3) := by decide +kernel
theorem dX12_goesBy_70 : decode cX12_goesBy 70 = .ok (.iconst 0, 1) := by decide +kernel
theorem dX12_goesBy_71 : decode cX12_goesBy 71 = .ok (.istore_n 3, 1) := by decide +kernel
theorem dX12_goesBy_72 : decode cX12_goesBy 72 = .ok (.iload_n 3, 1) := by decide +kernel
theorem dX12_goesBy_73 : decode cX12_goesBy 73 = .ok (.ifCond .eq 7, 3) := by decide +kernel
theorem dX12_goesBy_76 : decode cX12_goesBy 76 = .ok (.iload_n 2, 1) := by decide +kernel
theorem dX12_goesBy_77 : decode cX12_goesBy 77 = .ok (.goto 12, 3) := by decide +kernel
theorem dX12_goesBy_80 : decode cX12_goesBy 80 = .ok (.aload_n 0, 1) := by decide +kernel
theorem dX12_goesBy_81 : decode cX12_goesBy 81 = .ok (.getfield 7, 3) := by decide +kernel
theorem dX12_goesBy_84 : decode cX12_goesBy 84 = .ok (.bipush 6, 2) := by decide +kernel
theorem dX12_goesBy_86 : decode cX12_goesBy 86 = .ok (.iload_n 1, 1) := by decide +kernel
theorem dX12_goesBy_87 : decode cX12_goesBy 87 = .ok (.iadd, 1) := by decide +kernel
theorem dX12_goesBy_88 : decode cX12_goesBy 88 = .ok (.iaload, 1) := by decide +kernel
theorem dX12_goesBy_89 : decode cX12_goesBy 89 = .ok (.istore 4, 2) := by decide +kernel
theorem dX12_goesBy_91 : decode cX12_goesBy 91 = .ok (.aload_n 0, 1) := by decide +kernel
theorem dX12_goesBy_92 : decode cX12_goesBy 92 = .ok (.getfield 7, 3) := by decide +kernel
theorem dX12_goesBy_95 : decode cX12_goesBy 95 = .ok (.bipush 6, 2) := by decide +kernel
theorem dX12_goesBy_97 : decode cX12_goesBy 97 = .ok (.iload_n 1, 1) := by decide +kernel
theorem dX12_goesBy_98 : decode cX12_goesBy 98 = .ok (.iadd, 1) := by decide +kernel
theorem dX12_goesBy_99 : decode cX12_goesBy 99 = .ok (.aload_n 0, 1) := by decide +kernel
theorem dX12_goesBy_100 : decode cX12_goesBy 100 = .ok (.getfield 7, 3) := by decide +kernel
theorem dX12_goesBy_103 : decode cX12_goesBy 103 = .ok (.bipush 6, 2) := by decide +kernel
theorem dX12_goesBy_105 : decode cX12_goesBy 105 = .ok (.iload_n 1, 1) := by decide +kernel
theorem dX12_goesBy_106 : decode cX12_goesBy 106 = .ok (.iadd, 1) := by decide +kernel
theorem dX12_goesBy_107 : decode cX12_goesBy 107 = .ok (.iaload, 1) := by decide +kernel
theorem dX12_goesBy_108 : decode cX12_goesBy 108 = .ok (.iload 4, 2) := by decide +kernel
theorem dX12_goesBy_110 : decode cX12_goesBy 110 = .ok (.isub, 1) := by decide +kernel
theorem dX12_goesBy_111 : decode cX12_goesBy 111 = .ok (.iastore, 1) := by decide +kernel
theorem dX12_goesBy_112 : decode cX12_goesBy 112 = .ok (.iconst 0, 1) := by decide +kernel
theorem dX12_goesBy_113 : decode cX12_goesBy 113 = .ok (.istore 5, 2) := by decide +kernel
theorem dX12_goesBy_115 : decode cX12_goesBy 115 = .ok (.iload_n 3, 1) := by decide +kernel
theorem dX12_goesBy_116 : decode cX12_goesBy 116 = .ok (.ifCond .eq 104, 3) := by decide +kernel
theorem dX12_goesBy_119 : decode cX12_goesBy 119 = .ok (.aload_n 0, 1) := by decide +kernel
theorem dX12_goesBy_120 : decode cX12_goesBy 120 = .ok (.getfield 7, 3) := by decide +kernel
theorem dX12_goesBy_123 : decode cX12_goesBy 123 = .ok (.bipush 36, 2) := by decide +kernel
theorem dX12_goesBy_125 : decode cX12_goesBy 125 = .ok (.iload_n 1, 1) := by decide +kernel
theorem dX12_goesBy_126 : decode cX12_goesBy 126 = .ok (.iadd, 1) := by decide +kernel
theorem dX12_goesBy_127 : decode cX12_goesBy 127 = .ok (.iaload, 1) := by decide +kernel
theorem dX12_goesBy_128 : decode cX12_goesBy 128 = .ok (.ifCond .le 16, 3) := by decide +kernel
theorem dX12_goesBy_131 : decode cX12_goesBy 131 = .ok (.aload_n 0, 1) := by decide +kernel
theorem dX12_goesBy_132 : decode cX12_goesBy 132 = .ok (.iload_n 1, 1) := by decide +kernel
theorem dX12_goesBy_133 : decode cX12_goesBy 133 = .ok (.invokevirtual 362, 3) := by decide +kernel
theorem dX12_goesBy_136 : decode cX12_goesBy 136 = .ok (.iconst 1, 1) := by decide +kernel
theorem dX12_goesBy_137 : decode cX12_goesBy 137 = .ok (.if_icmp .ne 7, 3) := by decide +kernel
theorem dX12_goesBy_140 : decode cX12_goesBy 140 = .ok (.iconst 1, 1) := by decide +kernel
theorem dX12_goesBy_141 : decode cX12_goesBy 141 = .ok (.goto 4, 3) := by decide +kernel
theorem dX12_goesBy_144 : decode cX12_goesBy 144 = .ok (.iconst 0, 1) := by decide +kernel
theorem dX12_goesBy_145 : decode cX12_goesBy 145 = .ok (.istore 6, 2) := by decide +kernel
theorem dX12_goesBy_147 : decode cX12_goesBy 147 = .ok (.aload_n 0, 1) := by decide +kernel
theorem dX12_goesBy_148 : decode cX12_goesBy 148 = .ok (.getfield 7, 3) := by decide +kernel
theorem dX12_goesBy_151 : decode cX12_goesBy 151 = .ok (.bipush 26, 2) := by decide +kernel
theorem dX12_goesBy_153 : decode cX12_goesBy 153 = .ok (.iload_n 1, 1) := by decide +kernel
theorem dX12_goesBy_154 : decode cX12_goesBy 154 = .ok (.iadd, 1) := by decide +kernel
theorem dX12_goesBy_155 : decode cX12_goesBy 155 = .ok (.aload_n 0, 1) := by decide +kernel
theorem dX12_goesBy_156 : decode cX12_goesBy 156 = .ok (.getfield 7, 3) := by decide +kernel
theorem dX12_goesBy_159 : decode cX12_goesBy 159 = .ok (.bipush 26, 2) := by decide +kernel
theorem dX12_goesBy_161 : decode cX12_goesBy 161 = .ok (.iload_n 1, 1) := by decide +kernel
theorem dX12_goesBy_162 : decode cX12_goesBy 162 = .ok (.iadd, 1) := by decide +kernel
theorem dX12_goesBy_163 : decode cX12_goesBy 163 = .ok (.iaload, 1) := by decide +kernel
theorem dX12_goesBy_164 : decode cX12_goesBy 164 = .ok (.iconst 1, 1) := by decide +kernel
theorem dX12_goesBy_165 : decode cX12_goesBy 165 = .ok (.iadd, 1) := by decide +kernel
theorem dX12_goesBy_166 : decode cX12_goesBy 166 = .ok (.iastore, 1) := by decide +kernel
theorem dX12_goesBy_167 : decode cX12_goesBy 167 = .ok (.aload_n 0, 1) := by decide +kernel
theorem dX12_goesBy_168 : decode cX12_goesBy 168 = .ok (.getfield 7, 3) := by decide +kernel
theorem dX12_goesBy_171 : decode cX12_goesBy 171 = .ok (.bipush 36, 2) := by decide +kernel
theorem dX12_goesBy_173 : decode cX12_goesBy 173 = .ok (.iload_n 1, 1) := by decide +kernel
theorem dX12_goesBy_174 : decode cX12_goesBy 174 = .ok (.iadd, 1) := by decide +kernel
theorem dX12_goesBy_175 : decode cX12_goesBy 175 = .ok (.aload_n 0, 1) := by decide +kernel
theorem dX12_goesBy_176 : decode cX12_goesBy 176 = .ok (.getfield 7, 3) := by decide +kernel
theorem dX12_goesBy_179 : decode cX12_goesBy 179 = .ok (.iconst 0, 1) := by decide +kernel
theorem dX12_goesBy_180 : decode cX12_goesBy 180 = .ok (.iaload, 1) := by decide +kernel
theorem dX12_goesBy_181 : decode cX12_goesBy 181 = .ok (.iconst 1, 1) := by decide +kernel
theorem dX12_goesBy_182 : decode cX12_goesBy 182 = .ok (.iadd, 1) := by decide +kernel
theorem dX12_goesBy_183 : decode cX12_goesBy 183 = .ok (.iastore, 1) := by decide +kernel
theorem dX12_goesBy_184 : decode cX12_goesBy 184 = .ok (.aload_n 0, 1) := by decide +kernel
theorem dX12_goesBy_185 : decode cX12_goesBy 185 = .ok (.getfield 7, 3) := by decide +kernel
theorem dX12_goesBy_188 : decode cX12_goesBy 188 = .ok (.bipush 16, 2) := by decide +kernel
theorem dX12_goesBy_190 : decode cX12_goesBy 190 = .ok (.iload_n 1, 1) := by decide +kernel
theorem dX12_goesBy_191 : decode cX12_goesBy 191 = .ok (.iadd, 1) := by decide +kernel
theorem dX12_goesBy_192 : decode cX12_goesBy 192 = .ok (.aload_n 0, 1) := by decide +kernel
theorem dX12_goesBy_193 : decode cX12_goesBy 193 = .ok (.aload_n 0, 1) := by decide +kernel
theorem dX12_goesBy_194 : decode cX12_goesBy 194 = .ok (.getfield 7, 3) := by decide +kernel
theorem dX12_goesBy_197 : decode cX12_goesBy 197 = .ok (.bipush 16, 2) := by decide +kernel
theorem dX12_goesBy_199 : decode cX12_goesBy 199 = .ok (.iload_n 1, 1) := by decide +kernel
theorem dX12_goesBy_200 : decode cX12_goesBy 200 = .ok (.iadd, 1) := by decide +kernel
theorem dX12_goesBy_201 : decode cX12_goesBy 201 = .ok (.iaload, 1) := by decide +kernel
theorem dX12_goesBy_202 : decode cX12_goesBy 202 = .ok (.iconst 1, 1) := by decide +kernel
theorem dX12_goesBy_203 : decode cX12_goesBy 203 = .ok (.isub, 1) := by decide +kernel
theorem dX12_goesBy_204 : decode cX12_goesBy 204 = .ok (.iconst 0, 1) := by decide +kernel
theorem dX12_goesBy_205 : decode cX12_goesBy 205 = .ok (.bipush 99, 2) := by decide +kernel
theorem dX12_goesBy_207 : decode cX12_goesBy 207 = .ok (.invokevirtual 374, 3) := by decide +kernel
theorem dX12_goesBy_210 : decode cX12_goesBy 210 = .ok (.iastore, 1) := by decide +kernel
theorem dX12_goesBy_211 : decode cX12_goesBy 211 = .ok (.aload_n 0, 1) := by decide +kernel
theorem dX12_goesBy_212 : decode cX12_goesBy 212 = .ok (.iload_n 1, 1) := by decide +kernel
theorem dX12_goesBy_213 : decode cX12_goesBy 213 = .ok (.iload 6, 2) := by decide +kernel
theorem dX12_goesBy_215 : decode cX12_goesBy 215 = .ok (.invokevirtual 399, 3) := by decide +kernel
theorem dX12_goesBy_218 : decode cX12_goesBy 218 = .ok (.istore 5, 2) := by decide +kernel
theorem dX12_goesBy_220 : decode cX12_goesBy 220 = .ok (.aload_n 0, 1) := by decide +kernel
theorem dX12_goesBy_221 : decode cX12_goesBy 221 = .ok (.iload_n 1, 1) := by decide +kernel
theorem dX12_goesBy_222 : decode cX12_goesBy 222 = .ok (.iload_n 3, 1) := by decide +kernel
theorem dX12_goesBy_223 : decode cX12_goesBy 223 = .ok (.iload 4, 2) := by decide +kernel
theorem dX12_goesBy_225 : decode cX12_goesBy 225 = .ok (.iload 5, 2) := by decide +kernel
theorem dX12_goesBy_227 : decode cX12_goesBy 227 = .ok (.invokevirtual 403, 3) := by decide +kernel
theorem dX12_goesBy_230 : decode cX12_goesBy 230 = .ok (.aload_n 0, 1) := by decide +kernel
theorem dX12_goesBy_231 : decode cX12_goesBy 231 = .ok (.invokevirtual 407, 3) := by decide +kernel
theorem dX12_goesBy_234 : decode cX12_goesBy 234 = .ok (.aload_n 0, 1) := by decide +kernel
theorem dX12_goesBy_235 : decode cX12_goesBy 235 = .ok (.invokevirtual 410, 3) := by decide +kernel
theorem dX12_goesBy_238 : decode cX12_goesBy 238 = .ok (.aload_n 0, 1) := by decide +kernel
theorem dX12_goesBy_239 : decode cX12_goesBy 239 = .ok (.invokevirtual 413, 3) := by decide +kernel
theorem dX12_goesBy_242 : decode cX12_goesBy 242 = .ok (.aload_n 0, 1) := by decide +kernel
theorem dX12_goesBy_243 : decode cX12_goesBy 243 = .ok (.getfield 7, 3) := by decide +kernel
theorem dX12_goesBy_246 : decode cX12_goesBy 246 = .ok (.iconst 0, 1) := by decide +kernel
theorem dX12_goesBy_247 : decode cX12_goesBy 247 = .ok (.aload_n 0, 1) := by decide +kernel
theorem dX12_goesBy_248 : decode cX12_goesBy 248 = .ok (.getfield 7, 3) := by decide +kernel
theorem dX12_goesBy_251 : decode cX12_goesBy 251 = .ok (.iconst 0, 1) := by decide +kernel
theorem dX12_goesBy_252 : decode cX12_goesBy 252 = .ok (.iaload, 1) := by decide +kernel
theorem dX12_goesBy_253 : decode cX12_goesBy 253 = .ok (.iconst 1, 1) := by decide +kernel
theorem dX12_goesBy_254 : decode cX12_goesBy 254 = .ok (.iadd, 1) := by decide +kernel
theorem dX12_goesBy_255 : decode cX12_goesBy 255 = .ok (.iastore, 1) := by decide +kernel
theorem dX12_goesBy_256 : decode cX12_goesBy 256 = .ok (.iload_n 3, 1) := by decide +kernel
theorem dX12_goesBy_257 : decode cX12_goesBy 257 = .ok (.ireturn, 1) := by decide +kernel
theorem dX12_goesFor_0 : decode cX12_goesFor 0 = .ok (.aload_n 0, 1) := by decide +kernel
theorem dX12_goesFor_1 : decode cX12_goesFor 1 = .ok (.invokevirtual 444, 3) := by decide +kernel
theorem dX12_goesFor_4 : decode cX12_goesFor 4 = .ok (.aload_n 0, 1) := by decide +kernel
theorem dX12_goesFor_5 : decode cX12_goesFor 5 = .ok (.iconst 0, 1) := by decide +kernel
theorem dX12_goesFor_6 : decode cX12_goesFor 6 = .ok (.putfield 447, 3) := by decide +kernel
theorem dX12_goesFor_9 : decode cX12_goesFor 9 = .ok (.aload_n 0, 1) := by decide +kernel
theorem dX12_goesFor_10 : decode cX12_goesFor 10 = .ok (.iconst 0, 1) := by decide +kernel
theorem dX12_goesFor_11 : decode cX12_goesFor 11 = .ok (.putfield 450, 3) := by decide +kernel
theorem dX12_goesFor_14 : decode cX12_goesFor 14 = .ok (.aload_n 0, 1) := by decide +kernel
theorem dX12_goesFor_15 : decode cX12_goesFor 15 = .ok (.iconst (-1), 1) := by decide +kernel
theorem dX12_goesFor_16 : decode cX12_goesFor 16 = .ok (.putfield 453, 3) := by decide +kernel
theorem dX12_goesFor_19 : decode cX12_goesFor 19 = .ok (.iconst 0, 1) := by decide +kernel
theorem dX12_goesFor_20 : decode cX12_goesFor 20 = .ok (.istore_n 2, 1) := by decide +kernel
theorem dX12_goesFor_21 : decode cX12_goesFor 21 = .ok (.iload_n 2, 1) := by decide +kernel
theorem dX12_goesFor_22 : decode cX12_goesFor 22 = .ok (.iload_n 1, 1) := by decide +kernel
theorem dX12_goesFor_23 : decode cX12_goesFor 23 = .ok (.if_icmp .ge 107, 3) := by decide +kernel
theorem dX12_goesFor_26 : decode cX12_goesFor 26 = .ok (.aload_n 0, 1) := by decide +kernel
theorem dX12_goesFor_27 : decode cX12_goesFor 27 = .ok (.invokevirtual 419, 3) := by decide +kernel
theorem dX12_goesFor_30 : decode cX12_goesFor 30 = .ok (.ifCond .ne 13, 3) := by decide +kernel
theorem dX12_goesFor_33 : decode cX12_goesFor 33 = .ok (.aload_n 0, 1) := by decide +kernel
theorem dX12_goesFor_34 : decode cX12_goesFor 34 = .ok (.aload_n 0, 1) := by decide +kernel
theorem dX12_goesFor_35 : decode cX12_goesFor 35 = .ok (.getfield 447, 3) := by decide +kernel
theorem dX12_goesFor_38 : decode cX12_goesFor 38 = .ok (.iconst 1, 1) := by decide +kernel
theorem dX12_goesFor_39 : decode cX12_goesFor 39 = .ok (.iadd, 1) := by decide +kernel
theorem dX12_goesFor_40 : decode cX12_goesFor 40 = .ok (.putfield 447, 3) := by decide +kernel
theorem dX12_goesFor_43 : decode cX12_goesFor 43 = .ok (.iconst 0, 1) := by decide +kernel
theorem dX12_goesFor_44 : decode cX12_goesFor 44 = .ok (.istore_n 3, 1) := by decide +kernel
theorem dX12_goesFor_45 : decode cX12_goesFor 45 = .ok (.iload_n 3, 1) := by decide +kernel
theorem dX12_goesFor_46 : decode cX12_goesFor 46 = .ok (.aload_n 0, 1) := by decide +kernel
theorem dX12_goesFor_47 : decode cX12_goesFor 47 = .ok (.getfield 324, 3) := by decide +kernel
theorem dX12_goesFor_50 : decode cX12_goesFor 50 = .ok (.if_icmp .ge 74, 3) := by decide +kernel
theorem dX12_goesFor_53 : decode cX12_goesFor 53 = .ok (.aload_n 0, 1) := by decide +kernel
theorem dX12_goesFor_54 : decode cX12_goesFor 54 = .ok (.getfield 7, 3) := by decide +kernel
theorem dX12_goesFor_57 : decode cX12_goesFor 57 = .ok (.bipush 56, 2) := by decide +kernel
theorem dX12_goesFor_59 : decode cX12_goesFor 59 = .ok (.iload_n 3, 1) := by decide +kernel
theorem dX12_goesFor_60 : decode cX12_goesFor 60 = .ok (.iadd, 1) := by decide +kernel
theorem dX12_goesFor_61 : decode cX12_goesFor 61 = .ok (.iaload, 1) := by decide +kernel
theorem dX12_goesFor_62 : decode cX12_goesFor 62 = .ok (.ifCond .eq 56, 3) := by decide +kernel
theorem dX12_goesFor_65 : decode cX12_goesFor 65 = .ok (.aload_n 0, 1) := by decide +kernel
theorem dX12_goesFor_66 : decode cX12_goesFor 66 = .ok (.getfield 16, 3) := by decide +kernel
theorem dX12_goesFor_69 : decode cX12_goesFor 69 = .ok (.bipush 56, 2) := by decide +kernel
theorem dX12_goesFor_71 : decode cX12_goesFor 71 = .ok (.iload_n 3, 1) := by decide +kernel
theorem dX12_goesFor_72 : decode cX12_goesFor 72 = .ok (.iadd, 1) := by decide +kernel
theorem dX12_goesFor_73 : decode cX12_goesFor 73 = .ok (.iaload, 1) := by decide +kernel
theorem dX12_goesFor_74 : decode cX12_goesFor 74 = .ok (.iconst 1, 1) := by decide +kernel
theorem dX12_goesFor_75 : decode cX12_goesFor 75 = .ok (.if_icmp .eq 43, 3) := by decide +kernel
theorem dX12_goesFor_78 : decode cX12_goesFor 78 = .ok (.aload_n 0, 1) := by decide +kernel
theorem dX12_goesFor_79 : decode cX12_goesFor 79 = .ok (.getfield 450, 3) := by decide +kernel
theorem dX12_goesFor_82 : decode cX12_goesFor 82 = .ok (.iload_n 3, 1) := by decide +kernel
theorem dX12_goesFor_83 : decode cX12_goesFor 83 = .ok (.ishr, 1) := by decide +kernel
theorem dX12_goesFor_84 : decode cX12_goesFor 84 = .ok (.iconst 1, 1) := by decide +kernel
theorem dX12_goesFor_85 : decode cX12_goesFor 85 = .ok (.iand, 1) := by decide +kernel
theorem dX12_goesFor_86 : decode cX12_goesFor 86 = .ok (.iconst 1, 1) := by decide +kernel
theorem dX12_goesFor_87 : decode cX12_goesFor 87 = .ok (.if_icmp .ne 6, 3) := by decide +kernel
theorem dX12_goesFor_90 : decode cX12_goesFor 90 = .ok (.goto 28, 3) := by decide +kernel
theorem dX12_goesFor_93 : decode cX12_goesFor 93 = .ok (.aload_n 0, 1) := by decide +kernel
theorem dX12_goesFor_94 : decode cX12_goesFor 94 = .ok (.getfield 453, 3) := by decide +kernel
theorem dX12_goesFor_97 : decode cX12_goesFor 97 = .ok (.iconst (-1), 1) := by decide +kernel
theorem dX12_goesFor_98 : decode cX12_goesFor 98 = .ok (.if_icmp .ne 8, 3) := by decide +kernel
theorem dX12_goesFor_101 : decode cX12_goesFor 101 = .ok (.aload_n 0, 1) := by decide +kernel
theorem dX12_goesFor_102 : decode cX12_goesFor 102 = .ok (.iload_n 3, 1) := by decide +kernel
theorem dX12_goesFor_103 : decode cX12_goesFor 103 = .ok (.putfield 453, 3) := by decide +kernel
theorem dX12_goesFor_106 : decode cX12_goesFor 106 = .ok (.aload_n 0, 1) := by decide +kernel
theorem dX12_goesFor_107 : decode cX12_goesFor 107 = .ok (.aload_n 0, 1) := by decide +kernel
theorem dX12_goesFor_108 : decode cX12_goesFor 108 = .ok (.getfield 450, 3) := by decide +kernel
theorem dX12_goesFor_111 : decode cX12_goesFor 111 = .ok (.iconst 1, 1) := by decide +kernel
theorem dX12_goesFor_112 : decode cX12_goesFor 112 = .ok (.iload_n 3, 1) := by decide +kernel
theorem dX12_goesFor_113 : decode cX12_goesFor 113 = .ok (.ishl, 1) := by decide +kernel
theorem dX12_goesFor_114 : decode cX12_goesFor 114 = .ok (.ior, 1) := by decide +kernel
theorem dX12_goesFor_115 : decode cX12_goesFor 115 = .ok (.putfield 450, 3) := by decide +kernel
theorem dX12_goesFor_118 : decode cX12_goesFor 118 = .ok (.iinc 3 1, 3) := by decide +kernel
theorem dX12_goesFor_121 : decode cX12_goesFor 121 = .ok (.goto (-76), 3) := by decide +kernel
theorem dX12_goesFor_124 : decode cX12_goesFor 124 = .ok (.iinc 2 1, 3) := by decide +kernel
theorem dX12_goesFor_127 : decode cX12_goesFor 127 = .ok (.goto (-106), 3) := by decide +kernel
theorem dX12_goesFor_130 : decode cX12_goesFor 130 = .ok (.aload_n 0, 1) := by decide +kernel
theorem dX12_goesFor_131 : decode cX12_goesFor 131 = .ok (.getfield 7, 3) := by decide +kernel
theorem dX12_goesFor_134 : decode cX12_goesFor 134 = .ok (.iconst 3, 1) := by decide +kernel
theorem dX12_goesFor_135 : decode cX12_goesFor 135 = .ok (.iaload, 1) := by decide +kernel
theorem dX12_goesFor_136 : decode cX12_goesFor 136 = .ok (.istore_n 2, 1) := by decide +kernel
theorem dX12_goesFor_137 : decode cX12_goesFor 137 = .ok (.aload_n 0, 1) := by decide +kernel
theorem dX12_goesFor_138 : decode cX12_goesFor 138 = .ok (.invokevirtual 456, 3) := by decide +kernel
theorem dX12_goesFor_141 : decode cX12_goesFor 141 = .ok (.iload_n 2, 1) := by decide +kernel
theorem dX12_goesFor_142 : decode cX12_goesFor 142 = .ok (.ireturn, 1) := by decide +kernel
theorem dX12_nextByLaw_0 : decode cX12_nextByLaw 0 = .ok (.iconst (-1), 1) := by decide +kernel
theorem dX12_nextByLaw_1 : decode cX12_nextByLaw 1 = .ok (.istore_n 1, 1) := by decide +kernel
theorem dX12_nextByLaw_2 : decode cX12_nextByLaw 2 = .ok (.iconst 0, 1) := by decide +kernel
theorem dX12_nextByLaw_3 : decode cX12_nextByLaw 3 = .ok (.istore_n 2, 1) := by decide +kernel
theorem dX12_nextByLaw_4 : decode cX12_nextByLaw 4 = .ok (.iconst 0, 1) := by decide +kernel
theorem dX12_nextByLaw_5 : decode cX12_nextByLaw 5 = .ok (.istore_n 3, 1) := by decide +kernel
theorem dX12_nextByLaw_6 : decode cX12_nextByLaw 6 = .ok (.iload_n 3, 1) := by decide +kernel
theorem dX12_nextByLaw_7 : decode cX12_nextByLaw 7 = .ok (.aload_n 0, 1) := by decide +kernel
theorem dX12_nextByLaw_8 : decode cX12_nextByLaw 8 = .ok (.getfield 148, 3) := by decide +kernel
theorem dX12_nextByLaw_11 : decode cX12_nextByLaw 11 = .ok (.if_icmp .ge 52, 3) := by decide +kernel
theorem dX12_nextByLaw_14 : decode cX12_nextByLaw 14 = .ok (.aload_n 0, 1) := by decide +kernel
theorem dX12_nextByLaw_15 : decode cX12_nextByLaw 15 = .ok (.aload_n 0, 1) := by decide +kernel
theorem dX12_nextByLaw_16 : decode cX12_nextByLaw 16 = .ok (.getfield 7, 3) := by decide +kernel
theorem dX12_nextByLaw_19 : decode cX12_nextByLaw 19 = .ok (.iconst 3, 1) := by decide +kernel
theorem dX12_nextByLaw_20 : decode cX12_nextByLaw 20 = .ok (.iaload, 1) := by decide +kernel
theorem dX12_nextByLaw_21 : decode cX12_nextByLaw 21 = .ok (.iload_n 3, 1) := by decide +kernel
theorem dX12_nextByLaw_22 : decode cX12_nextByLaw 22 = .ok (.invokevirtual 377, 3) := by decide +kernel
theorem dX12_nextByLaw_25 : decode cX12_nextByLaw 25 = .ok (.ifCond .ne 6, 3) := by decide +kernel
theorem dX12_nextByLaw_28 : decode cX12_nextByLaw 28 = .ok (.goto 29, 3) := by decide +kernel
theorem dX12_nextByLaw_31 : decode cX12_nextByLaw 31 = .ok (.aload_n 0, 1) := by decide +kernel
theorem dX12_nextByLaw_32 : decode cX12_nextByLaw 32 = .ok (.iload_n 3, 1) := by decide +kernel
theorem dX12_nextByLaw_33 : decode cX12_nextByLaw 33 = .ok (.invokevirtual 381, 3) := by decide +kernel
theorem dX12_nextByLaw_36 : decode cX12_nextByLaw 36 = .ok (.istore 4, 2) := by decide +kernel
theorem dX12_nextByLaw_38 : decode cX12_nextByLaw 38 = .ok (.iload_n 1, 1) := by decide +kernel
theorem dX12_nextByLaw_39 : decode cX12_nextByLaw 39 = .ok (.iconst (-1), 1) := by decide +kernel
theorem dX12_nextByLaw_40 : decode cX12_nextByLaw 40 = .ok (.if_icmp .eq 12, 3) := by decide +kernel
theorem dX12_nextByLaw_43 : decode cX12_nextByLaw 43 = .ok (.iload 4, 2) := by decide +kernel
theorem dX12_nextByLaw_45 : decode cX12_nextByLaw 45 = .ok (.iload_n 2, 1) := by decide +kernel
theorem dX12_nextByLaw_46 : decode cX12_nextByLaw 46 = .ok (.if_icmp .gt 6, 3) := by decide +kernel
theorem dX12_nextByLaw_49 : decode cX12_nextByLaw 49 = .ok (.goto 8, 3) := by decide +kernel
theorem dX12_nextByLaw_52 : decode cX12_nextByLaw 52 = .ok (.iload_n 3, 1) := by decide +kernel
theorem dX12_nextByLaw_53 : decode cX12_nextByLaw 53 = .ok (.istore_n 1, 1) := by decide +kernel
theorem dX12_nextByLaw_54 : decode cX12_nextByLaw 54 = .ok (.iload 4, 2) := by decide +kernel
theorem dX12_nextByLaw_56 : decode cX12_nextByLaw 56 = .ok (.istore_n 2, 1) := by decide +kernel
theorem dX12_nextByLaw_57 : decode cX12_nextByLaw 57 = .ok (.iinc 3 1, 3) := by decide +kernel
theorem dX12_nextByLaw_60 : decode cX12_nextByLaw 60 = .ok (.goto (-54), 3) := by decide +kernel
theorem dX12_nextByLaw_63 : decode cX12_nextByLaw 63 = .ok (.iload_n 1, 1) := by decide +kernel
theorem dX12_nextByLaw_64 : decode cX12_nextByLaw 64 = .ok (.ireturn, 1) := by decide +kernel
theorem dX12_nextByRound_0 : decode cX12_nextByRound 0 = .ok (.aload_n 0, 1) := by decide +kernel
theorem dX12_nextByRound_1 : decode cX12_nextByRound 1 = .ok (.getfield 86, 3) := by decide +kernel
theorem dX12_nextByRound_4 : decode cX12_nextByRound 4 = .ok (.aload_n 0, 1) := by decide +kernel
theorem dX12_nextByRound_5 : decode cX12_nextByRound 5 = .ok (.getfield 7, 3) := by decide +kernel
theorem dX12_nextByRound_8 : decode cX12_nextByRound 8 = .ok (.iconst 5, 1) := by decide +kernel
theorem dX12_nextByRound_9 : decode cX12_nextByRound 9 = .ok (.iaload, 1) := by decide +kernel
theorem dX12_nextByRound_10 : decode cX12_nextByRound 10 = .ok (.iaload, 1) := by decide +kernel
theorem dX12_nextByRound_11 : decode cX12_nextByRound 11 = .ok (.istore_n 1, 1) := by decide +kernel
theorem dX12_nextByRound_12 : decode cX12_nextByRound 12 = .ok (.aload_n 0, 1) := by decide +kernel
theorem dX12_nextByRound_13 : decode cX12_nextByRound 13 = .ok (.getfield 7, 3) := by decide +kernel
theorem dX12_nextByRound_16 : decode cX12_nextByRound 16 = .ok (.iconst 5, 1) := by decide +kernel
theorem dX12_nextByRound_17 : decode cX12_nextByRound 17 = .ok (.aload_n 0, 1) := by decide +kernel
theorem dX12_nextByRound_18 : decode cX12_nextByRound 18 = .ok (.getfield 7, 3) := by decide +kernel
theorem dX12_nextByRound_21 : decode cX12_nextByRound 21 = .ok (.iconst 5, 1) := by decide +kernel
theorem dX12_nextByRound_22 : decode cX12_nextByRound 22 = .ok (.iaload, 1) := by decide +kernel
theorem dX12_nextByRound_23 : decode cX12_nextByRound 23 = .ok (.iconst 1, 1) := by decide +kernel
theorem dX12_nextByRound_24 : decode cX12_nextByRound 24 = .ok (.iadd, 1) := by decide +kernel
theorem dX12_nextByRound_25 : decode cX12_nextByRound 25 = .ok (.iastore, 1) := by decide +kernel
theorem dX12_nextByRound_26 : decode cX12_nextByRound 26 = .ok (.iload_n 1, 1) := by decide +kernel
theorem dX12_nextByRound_27 : decode cX12_nextByRound 27 = .ok (.iconst (-1), 1) := by decide +kernel
theorem dX12_nextByRound_28 : decode cX12_nextByRound 28 = .ok (.if_icmp .eq 21, 3) := by decide +kernel
theorem dX12_nextByRound_31 : decode cX12_nextByRound 31 = .ok (.aload_n 0, 1) := by decide +kernel
theorem dX12_nextByRound_32 : decode cX12_nextByRound 32 = .ok (.aload_n 0, 1) := by decide +kernel
theorem dX12_nextByRound_33 : decode cX12_nextByRound 33 = .ok (.getfield 7, 3) := by decide +kernel
theorem dX12_nextByRound_36 : decode cX12_nextByRound 36 = .ok (.iconst 3, 1) := by decide +kernel
theorem dX12_nextByRound_37 : decode cX12_nextByRound 37 = .ok (.iaload, 1) := by decide +kernel
theorem dX12_nextByRound_38 : decode cX12_nextByRound 38 = .ok (.iload_n 1, 1) := by decide +kernel
theorem dX12_nextByRound_39 : decode cX12_nextByRound 39 = .ok (.invokevirtual 377, 3) := by decide +kernel
theorem dX12_nextByRound_42 : decode cX12_nextByRound 42 = .ok (.ifCond .eq 7, 3) := by decide +kernel
theorem dX12_nextByRound_45 : decode cX12_nextByRound 45 = .ok (.iload_n 1, 1) := by decide +kernel
theorem dX12_nextByRound_46 : decode cX12_nextByRound 46 = .ok (.goto 9, 3) := by decide +kernel
theorem dX12_nextByRound_49 : decode cX12_nextByRound 49 = .ok (.aload_n 0, 1) := by decide +kernel
theorem dX12_nextByRound_50 : decode cX12_nextByRound 50 = .ok (.getfield 7, 3) := by decide +kernel
theorem dX12_nextByRound_53 : decode cX12_nextByRound 53 = .ok (.iconst 3, 1) := by decide +kernel
theorem dX12_nextByRound_54 : decode cX12_nextByRound 54 = .ok (.iaload, 1) := by decide +kernel
theorem dX12_nextByRound_55 : decode cX12_nextByRound 55 = .ok (.ireturn, 1) := by decide +kernel
theorem dX12_nights_0 : decode cX12_nights 0 = .ok (.aload_n 0, 1) := by decide +kernel
theorem dX12_nights_1 : decode cX12_nights 1 = .ok (.iconst 0, 1) := by decide +kernel
theorem dX12_nights_2 : decode cX12_nights 2 = .ok (.putfield 130, 3) := by decide +kernel
theorem dX12_nights_5 : decode cX12_nights 5 = .ok (.aload_n 0, 1) := by decide +kernel
theorem dX12_nights_6 : decode cX12_nights 6 = .ok (.iload_n 1, 1) := by decide +kernel
theorem dX12_nights_7 : decode cX12_nights 7 = .ok (.iconst 1, 1) := by decide +kernel
theorem dX12_nights_8 : decode cX12_nights 8 = .ok (.bipush 60, 2) := by decide +kernel
theorem dX12_nights_10 : decode cX12_nights 10 = .ok (.invokevirtual 151, 3) := by decide +kernel
theorem dX12_nights_13 : decode cX12_nights 13 = .ok (.ifCond .eq 24, 3) := by decide +kernel
theorem dX12_nights_16 : decode cX12_nights 16 = .ok (.aload_n 0, 1) := by decide +kernel
theorem dX12_nights_17 : decode cX12_nights 17 = .ok (.getfield 148, 3) := by decide +kernel
theorem dX12_nights_20 : decode cX12_nights 20 = .ok (.ifCond .eq 17, 3) := by decide +kernel
theorem dX12_nights_23 : decode cX12_nights 23 = .ok (.aload_n 0, 1) := by decide +kernel
theorem dX12_nights_24 : decode cX12_nights 24 = .ok (.getfield 7, 3) := by decide +kernel
theorem dX12_nights_27 : decode cX12_nights 27 = .ok (.iconst 0, 1) := by decide +kernel
theorem dX12_nights_28 : decode cX12_nights 28 = .ok (.iaload, 1) := by decide +kernel
theorem dX12_nights_29 : decode cX12_nights 29 = .ok (.iload_n 1, 1) := by decide +kernel
theorem dX12_nights_30 : decode cX12_nights 30 = .ok (.iadd, 1) := by decide +kernel
theorem dX12_nights_31 : decode cX12_nights 31 = .ok (.sipush 9999, 3) := by decide +kernel
theorem dX12_nights_34 : decode cX12_nights 34 = .ok (.if_icmp .le 5, 3) := by decide +kernel
theorem dX12_nights_37 : decode cX12_nights 37 = .ok (.iconst (-1), 1) := by decide +kernel
theorem dX12_nights_38 : decode cX12_nights 38 = .ok (.ireturn, 1) := by decide +kernel
theorem dX12_nights_39 : decode cX12_nights 39 = .ok (.iconst 0, 1) := by decide +kernel
theorem dX12_nights_40 : decode cX12_nights 40 = .ok (.istore_n 2, 1) := by decide +kernel
theorem dX12_nights_41 : decode cX12_nights 41 = .ok (.iconst 0, 1) := by decide +kernel
theorem dX12_nights_42 : decode cX12_nights 42 = .ok (.istore_n 3, 1) := by decide +kernel
theorem dX12_nights_43 : decode cX12_nights 43 = .ok (.iload_n 3, 1) := by decide +kernel
theorem dX12_nights_44 : decode cX12_nights 44 = .ok (.iload_n 1, 1) := by decide +kernel
theorem dX12_nights_45 : decode cX12_nights 45 = .ok (.if_icmp .ge 24, 3) := by decide +kernel
theorem dX12_nights_48 : decode cX12_nights 48 = .ok (.aload_n 0, 1) := by decide +kernel
theorem dX12_nights_49 : decode cX12_nights 49 = .ok (.invokevirtual 416, 3) := by decide +kernel
theorem dX12_nights_52 : decode cX12_nights 52 = .ok (.aload_n 0, 1) := by decide +kernel
theorem dX12_nights_53 : decode cX12_nights 53 = .ok (.invokevirtual 419, 3) := by decide +kernel
theorem dX12_nights_56 : decode cX12_nights 56 = .ok (.ifCond .eq 7, 3) := by decide +kernel
theorem dX12_nights_59 : decode cX12_nights 59 = .ok (.iload_n 2, 1) := by decide +kernel
theorem dX12_nights_60 : decode cX12_nights 60 = .ok (.iconst 1, 1) := by decide +kernel
theorem dX12_nights_61 : decode cX12_nights 61 = .ok (.iadd, 1) := by decide +kernel
theorem dX12_nights_62 : decode cX12_nights 62 = .ok (.istore_n 2, 1) := by decide +kernel
theorem dX12_nights_63 : decode cX12_nights 63 = .ok (.iinc 3 1, 3) := by decide +kernel
theorem dX12_nights_66 : decode cX12_nights 66 = .ok (.goto (-23), 3) := by decide +kernel
theorem dX12_nights_69 : decode cX12_nights 69 = .ok (.iload_n 2, 1) := by decide +kernel
theorem dX12_nights_70 : decode cX12_nights 70 = .ok (.ireturn, 1) := by decide +kernel
theorem dX12_of_0 : decode cX12_of 0 = .ok (.aload_n 0, 1) := by decide +kernel
theorem dX12_of_1 : decode cX12_of 1 = .ok (.iconst 0, 1) := by decide +kernel
theorem dX12_of_2 : decode cX12_of 2 = .ok (.putfield 130, 3) := by decide +kernel
theorem dX12_of_5 : decode cX12_of 5 = .ok (.aload_n 0, 1) := by decide +kernel
theorem dX12_of_6 : decode cX12_of 6 = .ok (.iload_n 1, 1) := by decide +kernel
theorem dX12_of_7 : decode cX12_of 7 = .ok (.invokevirtual 155, 3) := by decide +kernel
theorem dX12_of_10 : decode cX12_of 10 = .ok (.ifCond .ne 7, 3) := by decide +kernel
theorem dX12_of_13 : decode cX12_of 13 = .ok (.ldc_w 434, 3) := by decide +kernel
theorem dX12_of_16 : decode cX12_of 16 = .ok (.ireturn, 1) := by decide +kernel
theorem dX12_of_17 : decode cX12_of 17 = .ok (.iload_n 2, 1) := by decide +kernel
theorem dX12_of_18 : decode cX12_of 18 = .ok (.ifCond .ne 10, 3) := by decide +kernel
theorem dX12_of_21 : decode cX12_of 21 = .ok (.aload_n 0, 1) := by decide +kernel
theorem dX12_of_22 : decode cX12_of 22 = .ok (.getfield 19, 3) := by decide +kernel
theorem dX12_of_25 : decode cX12_of 25 = .ok (.iload_n 1, 1) := by decide +kernel
theorem dX12_of_26 : decode cX12_of 26 = .ok (.iaload, 1) := by decide +kernel
theorem dX12_of_27 : decode cX12_of 27 = .ok (.ireturn, 1) := by decide +kernel
theorem dX12_of_28 : decode cX12_of 28 = .ok (.iload_n 2, 1) := by decide +kernel
theorem dX12_of_29 : decode cX12_of 29 = .ok (.iconst 1, 1) := by decide +kernel
theorem dX12_of_30 : decode cX12_of 30 = .ok (.if_icmp .ne 10, 3) := by decide +kernel
theorem dX12_of_33 : decode cX12_of 33 = .ok (.aload_n 0, 1) := by decide +kernel
theorem dX12_of_34 : decode cX12_of 34 = .ok (.getfield 22, 3) := by decide +kernel
theorem dX12_of_37 : decode cX12_of 37 = .ok (.iload_n 1, 1) := by decide +kernel
theorem dX12_of_38 : decode cX12_of 38 = .ok (.iaload, 1) := by decide +kernel
theorem dX12_of_39 : decode cX12_of 39 = .ok (.ireturn, 1) := by decide +kernel
theorem dX12_of_40 : decode cX12_of 40 = .ok (.iload_n 2, 1) := by decide +kernel
theorem dX12_of_41 : decode cX12_of 41 = .ok (.iconst 2, 1) := by decide +kernel
theorem dX12_of_42 : decode cX12_of 42 = .ok (.if_icmp .ne 13, 3) := by decide +kernel
theorem dX12_of_45 : decode cX12_of 45 = .ok (.aload_n 0, 1) := by decide +kernel
theorem dX12_of_46 : decode cX12_of 46 = .ok (.getfield 7, 3) := by decide +kernel
theorem dX12_of_49 : decode cX12_of 49 = .ok (.bipush 6, 2) := by decide +kernel
theorem dX12_of_51 : decode cX12_of 51 = .ok (.iload_n 1, 1) := by decide +kernel
theorem dX12_of_52 : decode cX12_of 52 = .ok (.iadd, 1) := by decide +kernel
theorem dX12_of_53 : decode cX12_of 53 = .ok (.iaload, 1) := by decide +kernel
theorem dX12_of_54 : decode cX12_of 54 = .ok (.ireturn, 1) := by decide +kernel
theorem dX12_of_55 : decode cX12_of 55 = .ok (.iload_n 2, 1) := by decide +kernel
theorem dX12_of_56 : decode cX12_of 56 = .ok (.iconst 3, 1) := by decide +kernel
theorem dX12_of_57 : decode cX12_of 57 = .ok (.if_icmp .ne 13, 3) := by decide +kernel
theorem dX12_of_60 : decode cX12_of 60 = .ok (.aload_n 0, 1) := by decide +kernel
theorem dX12_of_61 : decode cX12_of 61 = .ok (.getfield 7, 3) := by decide +kernel
theorem dX12_of_64 : decode cX12_of 64 = .ok (.bipush 16, 2) := by decide +kernel
theorem dX12_of_66 : decode cX12_of 66 = .ok (.iload_n 1, 1) := by decide +kernel
theorem dX12_of_67 : decode cX12_of 67 = .ok (.iadd, 1) := by decide +kernel
theorem dX12_of_68 : decode cX12_of 68 = .ok (.iaload, 1) := by decide +kernel
theorem dX12_of_69 : decode cX12_of 69 = .ok (.ireturn, 1) := by decide +kernel
theorem dX12_of_70 : decode cX12_of 70 = .ok (.iload_n 2, 1) := by decide +kernel
theorem dX12_of_71 : decode cX12_of 71 = .ok (.iconst 4, 1) := by decide +kernel
theorem dX12_of_72 : decode cX12_of 72 = .ok (.if_icmp .ne 13, 3) := by decide +kernel
theorem dX12_of_75 : decode cX12_of 75 = .ok (.aload_n 0, 1) := by decide +kernel
theorem dX12_of_76 : decode cX12_of 76 = .ok (.getfield 7, 3) := by decide +kernel
theorem dX12_of_79 : decode cX12_of 79 = .ok (.bipush 26, 2) := by decide +kernel
theorem dX12_of_81 : decode cX12_of 81 = .ok (.iload_n 1, 1) := by decide +kernel
theorem dX12_of_82 : decode cX12_of 82 = .ok (.iadd, 1) := by decide +kernel
theorem dX12_of_83 : decode cX12_of 83 = .ok (.iaload, 1) := by decide +kernel
theorem dX12_of_84 : decode cX12_of 84 = .ok (.ireturn, 1) := by decide +kernel
theorem dX12_of_85 : decode cX12_of 85 = .ok (.iload_n 2, 1) := by decide +kernel
theorem dX12_of_86 : decode cX12_of 86 = .ok (.iconst 5, 1) := by decide +kernel
theorem dX12_of_87 : decode cX12_of 87 = .ok (.if_icmp .ne 15, 3) := by decide +kernel
theorem dX12_of_90 : decode cX12_of 90 = .ok (.aload_n 0, 1) := by decide +kernel
theorem dX12_of_91 : decode cX12_of 91 = .ok (.getfield 7, 3) := by decide +kernel
theorem dX12_of_94 : decode cX12_of 94 = .ok (.bipush 36, 2) := by decide +kernel
theorem dX12_of_96 : decode cX12_of 96 = .ok (.iload_n 1, 1) := by decide +kernel
theorem dX12_of_97 : decode cX12_of 97 = .ok (.iadd, 1) := by decide +kernel
theorem dX12_of_98 : decode cX12_of 98 = .ok (.iaload, 1) := by decide +kernel
theorem dX12_of_99 : decode cX12_of 99 = .ok (.iconst 1, 1) := by decide +kernel
theorem dX12_of_100 : decode cX12_of 100 = .ok (.isub, 1) := by decide +kernel
theorem dX12_of_101 : decode cX12_of 101 = .ok (.ireturn, 1) := by decide +kernel
theorem dX12_of_102 : decode cX12_of 102 = .ok (.iload_n 2, 1) := by decide +kernel
theorem dX12_of_103 : decode cX12_of 103 = .ok (.bipush 6, 2) := by decide +kernel
theorem dX12_of_105 : decode cX12_of 105 = .ok (.if_icmp .ne 10, 3) := by decide +kernel
theorem dX12_of_108 : decode cX12_of 108 = .ok (.aload_n 0, 1) := by decide +kernel
theorem dX12_of_109 : decode cX12_of 109 = .ok (.getfield 25, 3) := by decide +kernel
theorem dX12_of_112 : decode cX12_of 112 = .ok (.iload_n 1, 1) := by decide +kernel
theorem dX12_of_113 : decode cX12_of 113 = .ok (.iaload, 1) := by decide +kernel
theorem dX12_of_114 : decode cX12_of 114 = .ok (.ireturn, 1) := by decide +kernel
theorem dX12_of_115 : decode cX12_of 115 = .ok (.iload_n 2, 1) := by decide +kernel
theorem dX12_of_116 : decode cX12_of 116 = .ok (.bipush 7, 2) := by decide +kernel
theorem dX12_of_118 : decode cX12_of 118 = .ok (.if_icmp .ne 10, 3) := by decide +kernel
theorem dX12_of_121 : decode cX12_of 121 = .ok (.aload_n 0, 1) := by decide +kernel
theorem dX12_of_122 : decode cX12_of 122 = .ok (.getfield 28, 3) := by decide +kernel
theorem dX12_of_125 : decode cX12_of 125 = .ok (.iload_n 1, 1) := by decide +kernel
theorem dX12_of_126 : decode cX12_of 126 = .ok (.iaload, 1) := by decide +kernel
theorem dX12_of_127 : decode cX12_of 127 = .ok (.ireturn, 1) := by decide +kernel
theorem dX12_of_128 : decode cX12_of 128 = .ok (.aload_n 0, 1) := by decide +kernel
theorem dX12_of_129 : decode cX12_of 129 = .ok (.aload_n 0, 1) := by decide +kernel
theorem dX12_of_130 : decode cX12_of 130 = .ok (.getfield 7, 3) := by decide +kernel
theorem dX12_of_133 : decode cX12_of 133 = .ok (.iconst 4, 1) := by decide +kernel
theorem dX12_of_134 : decode cX12_of 134 = .ok (.iaload, 1) := by decide +kernel
theorem dX12_of_135 : decode cX12_of 135 = .ok (.invokevirtual 353, 3) := by decide +kernel
theorem dX12_of_138 : decode cX12_of 138 = .ok (.iload_n 2, 1) := by decide +kernel
theorem dX12_of_139 : decode cX12_of 139 = .ok (.bipush 8, 2) := by decide +kernel
theorem dX12_of_141 : decode cX12_of 141 = .ok (.if_icmp .ne 9, 3) := by decide +kernel
theorem dX12_of_144 : decode cX12_of 144 = .ok (.aload_n 0, 1) := by decide +kernel
theorem dX12_of_145 : decode cX12_of 145 = .ok (.iload_n 1, 1) := by decide +kernel
theorem dX12_of_146 : decode cX12_of 146 = .ok (.invokevirtual 381, 3) := by decide +kernel
theorem dX12_of_149 : decode cX12_of 149 = .ok (.ireturn, 1) := by decide +kernel
theorem dX12_of_150 : decode cX12_of 150 = .ok (.iload_n 2, 1) := by decide +kernel
theorem dX12_of_151 : decode cX12_of 151 = .ok (.bipush 9, 2) := by decide +kernel
theorem dX12_of_153 : decode cX12_of 153 = .ok (.if_icmp .ne 9, 3) := by decide +kernel
theorem dX12_of_156 : decode cX12_of 156 = .ok (.aload_n 0, 1) := by decide +kernel
theorem dX12_of_157 : decode cX12_of 157 = .ok (.iload_n 1, 1) := by decide +kernel
theorem dX12_of_158 : decode cX12_of 158 = .ok (.invokevirtual 396, 3) := by decide +kernel
theorem dX12_of_161 : decode cX12_of 161 = .ok (.ireturn, 1) := by decide +kernel
theorem dX12_of_162 : decode cX12_of 162 = .ok (.iload_n 2, 1) := by decide +kernel
theorem dX12_of_163 : decode cX12_of 163 = .ok (.bipush 10, 2) := by decide +kernel
theorem dX12_of_165 : decode cX12_of 165 = .ok (.if_icmp .ne 10, 3) := by decide +kernel
theorem dX12_of_168 : decode cX12_of 168 = .ok (.aload_n 0, 1) := by decide +kernel
theorem dX12_of_169 : decode cX12_of 169 = .ok (.getfield 31, 3) := by decide +kernel
theorem dX12_of_172 : decode cX12_of 172 = .ok (.iload_n 1, 1) := by decide +kernel
theorem dX12_of_173 : decode cX12_of 173 = .ok (.iaload, 1) := by decide +kernel
theorem dX12_of_174 : decode cX12_of 174 = .ok (.ireturn, 1) := by decide +kernel
theorem dX12_of_175 : decode cX12_of 175 = .ok (.iload_n 2, 1) := by decide +kernel
theorem dX12_of_176 : decode cX12_of 176 = .ok (.bipush 11, 2) := by decide +kernel
theorem dX12_of_178 : decode cX12_of 178 = .ok (.if_icmp .ne 9, 3) := by decide +kernel
theorem dX12_of_181 : decode cX12_of 181 = .ok (.aload_n 0, 1) := by decide +kernel
theorem dX12_of_182 : decode cX12_of 182 = .ok (.iload_n 1, 1) := by decide +kernel
theorem dX12_of_183 : decode cX12_of 183 = .ok (.invokevirtual 435, 3) := by decide +kernel
theorem dX12_of_186 : decode cX12_of 186 = .ok (.ireturn, 1) := by decide +kernel
theorem dX12_of_187 : decode cX12_of 187 = .ok (.iload_n 2, 1) := by decide +kernel
theorem dX12_of_188 : decode cX12_of 188 = .ok (.bipush 12, 2) := by decide +kernel
theorem dX12_of_190 : decode cX12_of 190 = .ok (.if_icmp .ne 11, 3) := by decide +kernel
theorem dX12_of_193 : decode cX12_of 193 = .ok (.aload_n 0, 1) := by decide +kernel
theorem dX12_of_194 : decode cX12_of 194 = .ok (.iload_n 1, 1) := by decide +kernel
theorem dX12_of_195 : decode cX12_of 195 = .ok (.invokevirtual 438, 3) := by decide +kernel
theorem dX12_of_198 : decode cX12_of 198 = .ok (.goto 20, 3) := by decide +kernel
theorem dX12_of_201 : decode cX12_of 201 = .ok (.iload_n 2, 1) := by decide +kernel
theorem dX12_of_202 : decode cX12_of 202 = .ok (.bipush 13, 2) := by decide +kernel
theorem dX12_of_204 : decode cX12_of 204 = .ok (.if_icmp .ne 11, 3) := by decide +kernel
theorem dX12_of_207 : decode cX12_of 207 = .ok (.aload_n 0, 1) := by decide +kernel
theorem dX12_of_208 : decode cX12_of 208 = .ok (.iload_n 1, 1) := by decide +kernel
theorem dX12_of_209 : decode cX12_of 209 = .ok (.invokevirtual 441, 3) := by decide +kernel
theorem dX12_of_212 : decode cX12_of 212 = .ok (.goto 6, 3) := by decide +kernel
theorem dX12_of_215 : decode cX12_of 215 = .ok (.ldc_w 434, 3) := by decide +kernel
theorem dX12_of_218 : decode cX12_of 218 = .ok (.ireturn, 1) := by decide +kernel
theorem dX12_run_0 : decode cX12_run 0 = .ok (.aload_n 0, 1) := by decide +kernel
theorem dX12_run_1 : decode cX12_run 1 = .ok (.iconst 0, 1) := by decide +kernel
theorem dX12_run_2 : decode cX12_run 2 = .ok (.putfield 130, 3) := by decide +kernel
theorem dX12_run_5 : decode cX12_run 5 = .ok (.aload_n 0, 1) := by decide +kernel
theorem dX12_run_6 : decode cX12_run 6 = .ok (.iload_n 1, 1) := by decide +kernel
theorem dX12_run_7 : decode cX12_run 7 = .ok (.iconst 1, 1) := by decide +kernel
theorem dX12_run_8 : decode cX12_run 8 = .ok (.bipush 99, 2) := by decide +kernel
theorem dX12_run_10 : decode cX12_run 10 = .ok (.invokevirtual 151, 3) := by decide +kernel
theorem dX12_run_13 : decode cX12_run 13 = .ok (.ifCond .eq 20, 3) := by decide +kernel
theorem dX12_run_16 : decode cX12_run 16 = .ok (.aload_n 0, 1) := by decide +kernel
theorem dX12_run_17 : decode cX12_run 17 = .ok (.getfield 148, 3) := by decide +kernel
theorem dX12_run_20 : decode cX12_run 20 = .ok (.ifCond .eq 13, 3) := by decide +kernel
theorem dX12_run_23 : decode cX12_run 23 = .ok (.aload_n 0, 1) := by decide +kernel
theorem dX12_run_24 : decode cX12_run 24 = .ok (.iload_n 2, 1) := by decide +kernel
theorem dX12_run_25 : decode cX12_run 25 = .ok (.iconst 0, 1) := by decide +kernel
theorem dX12_run_26 : decode cX12_run 26 = .ok (.iconst 3, 1) := by decide +kernel
theorem dX12_run_27 : decode cX12_run 27 = .ok (.invokevirtual 151, 3) := by decide +kernel
theorem dX12_run_30 : decode cX12_run 30 = .ok (.ifCond .ne 5, 3) := by decide +kernel
theorem dX12_run_33 : decode cX12_run 33 = .ok (.iconst (-1), 1) := by decide +kernel
theorem dX12_run_34 : decode cX12_run 34 = .ok (.ireturn, 1) := by decide +kernel
theorem dX12_run_35 : decode cX12_run 35 = .ok (.aload_n 0, 1) := by decide +kernel
theorem dX12_run_36 : decode cX12_run 36 = .ok (.iload_n 1, 1) := by decide +kernel
theorem dX12_run_37 : decode cX12_run 37 = .ok (.invokevirtual 459, 3) := by decide +kernel
theorem dX12_run_40 : decode cX12_run 40 = .ok (.istore_n 3, 1) := by decide +kernel
theorem dX12_run_41 : decode cX12_run 41 = .ok (.iload_n 2, 1) := by decide +kernel
theorem dX12_run_42 : decode cX12_run 42 = .ok (.ifCond .ne 7, 3) := by decide +kernel
theorem dX12_run_45 : decode cX12_run 45 = .ok (.iload_n 3, 1) := by decide +kernel
theorem dX12_run_46 : decode cX12_run 46 = .ok (.goto 31, 3) := by decide +kernel
theorem dX12_run_49 : decode cX12_run 49 = .ok (.iload_n 2, 1) := by decide +kernel
theorem dX12_run_50 : decode cX12_run 50 = .ok (.iconst 1, 1) := by decide +kernel
theorem dX12_run_51 : decode cX12_run 51 = .ok (.if_icmp .ne 10, 3) := by decide +kernel
theorem dX12_run_54 : decode cX12_run 54 = .ok (.aload_n 0, 1) := by decide +kernel
theorem dX12_run_55 : decode cX12_run 55 = .ok (.getfield 447, 3) := by decide +kernel
theorem dX12_run_58 : decode cX12_run 58 = .ok (.goto 19, 3) := by decide +kernel
theorem dX12_run_61 : decode cX12_run 61 = .ok (.iload_n 2, 1) := by decide +kernel
theorem dX12_run_62 : decode cX12_run 62 = .ok (.iconst 2, 1) := by decide +kernel
theorem dX12_run_63 : decode cX12_run 63 = .ok (.if_icmp .ne 10, 3) := by decide +kernel
theorem dX12_run_66 : decode cX12_run 66 = .ok (.aload_n 0, 1) := by decide +kernel
theorem dX12_run_67 : decode cX12_run 67 = .ok (.getfield 450, 3) := by decide +kernel
theorem dX12_run_70 : decode cX12_run 70 = .ok (.goto 7, 3) := by decide +kernel
theorem dX12_run_73 : decode cX12_run 73 = .ok (.aload_n 0, 1) := by decide +kernel
theorem dX12_run_74 : decode cX12_run 74 = .ok (.getfield 453, 3) := by decide +kernel
theorem dX12_run_77 : decode cX12_run 77 = .ok (.ireturn, 1) := by decide +kernel
theorem q_105 : Cond.selects RX12 yX12_burnOf yX12_burnOf ∈ GW := inG 105 (by decide +kernel) (by decide +kernel)
theorem q_107 : Cond.selects RX12 yX12_doesNeeds yX12_doesNeeds ∈ GW := inG 107 (by decide +kernel) (by decide +kernel)
theorem q_108 : Cond.selects RX12 yX12_notes yX12_notes ∈ GW := inG 108 (by decide +kernel) (by decide +kernel)
theorem q_109 : Cond.selects RX12 yX12_owes yX12_owes ∈ GW := inG 109 (by decide +kernel) (by decide +kernel)
theorem q_111 : Cond.selects RX12 yX12_spoils yX12_spoils ∈ GW := inG 111 (by decide +kernel) (by decide +kernel)
theorem q_112 : Cond.selects RX12 yX12_snows yX12_snows ∈ GW := inG 112 (by decide +kernel) (by decide +kernel)
theorem q_115 : Cond.selects RX12 yX12_enviedBy yX12_enviedBy ∈ GW := inG 115 (by decide +kernel) (by decide +kernel)
theorem q_117 : Cond.selects RX12 yX12_seenBy yX12_seenBy ∈ GW := inG 117 (by decide +kernel) (by decide +kernel)
theorem q_121 : Cond.selects RX12 yX12_goesFor yX12_goesFor ∈ GW := inG 121 (by decide +kernel) (by decide +kernel)
theorem q_122 : Cond.selects RX12 yX12_thinks yX12_thinks ∈ GW := inG 122 (by decide +kernel) (by decide +kernel)
theorem q_123 : Cond.selects RX12 yX12_endsThought yX12_endsThought ∈ GW := inG 123 (by decide +kernel) (by decide +kernel)
theorem q_1449 : Cond.fieldLink RX12 86 "LampRoundModel" "round" "[I" ∈ GW := inG 1449 (by decide +kernel) (by decide +kernel)
theorem q_1455 : Cond.fieldLink RX12 447 "LampRoundModel" "runDark" "I" ∈ GW := inG 1455 (by decide +kernel) (by decide +kernel)
theorem q_1456 : Cond.fieldLink RX12 450 "LampRoundModel" "runSpoilt" "I" ∈ GW := inG 1456 (by decide +kernel) (by decide +kernel)
theorem q_1457 : Cond.fieldLink RX12 453 "LampRoundModel" "runFirst" "I" ∈ GW := inG 1457 (by decide +kernel) (by decide +kernel)
theorem q_1831 : Cond.methodLink RX12 416 yX12_keepsAhead ∈ GW := inG 1831 (by decide +kernel) (by decide +kernel)
theorem q_1833 : Cond.instanceMethod yX12_keepsAhead ∈ GW := inG 1833 (by decide +kernel) (by decide +kernel)
theorem q_1834 : Cond.code yX12_keepsAhead cX12_keepsAhead 2 none ∈ GW := inG 1834 (by decide +kernel) (by decide +kernel)
theorem q_1835 : Cond.methodLink RX12 419 yX12_goesBy ∈ GW := inG 1835 (by decide +kernel) (by decide +kernel)
theorem q_1837 : Cond.instanceMethod yX12_goesBy ∈ GW := inG 1837 (by decide +kernel) (by decide +kernel)
theorem q_1838 : Cond.code yX12_goesBy cX12_goesBy 7 (some .boolean) ∈ GW := inG 1838 (by decide +kernel) (by decide +kernel)
theorem q_1839 : Cond.methodLink RX12 390 yX12_nextByRound ∈ GW := inG 1839 (by decide +kernel) (by decide +kernel)
theorem q_1841 : Cond.instanceMethod yX12_nextByRound ∈ GW := inG 1841 (by decide +kernel) (by decide +kernel)
theorem q_1842 : Cond.code yX12_nextByRound cX12_nextByRound 2 (some .int) ∈ GW := inG 1842 (by decide +kernel) (by decide +kernel)
theorem q_1851 : Cond.methodLink RX12 393 yX12_nextByLaw ∈ GW := inG 1851 (by decide +kernel) (by decide +kernel)
theorem q_1853 : Cond.instanceMethod yX12_nextByLaw ∈ GW := inG 1853 (by decide +kernel) (by decide +kernel)
theorem q_1854 : Cond.code yX12_nextByLaw cX12_nextByLaw 5 (some .int) ∈ GW := inG 1854 (by decide +kernel) (by decide +kernel)
theorem q_1855 : Cond.methodLink RX12 381 yX12_turnOfHouse ∈ GW := inG 1855 (by decide +kernel) (by decide +kernel)
theorem q_1857 : Cond.instanceMethod yX12_turnOfHouse ∈ GW := inG 1857 (by decide +kernel) (by decide +kernel)
theorem q_1858 : Cond.code yX12_turnOfHouse cX12_turnOfHouse 4 (some .int) ∈ GW := inG 1858 (by decide +kernel) (by decide +kernel)
theorem q_1891 : Cond.methodLink RX12 396 yX12_burnOf ∈ GW := inG 1891 (by decide +kernel) (by decide +kernel)
theorem q_1893 : Cond.instanceMethod yX12_burnOf ∈ GW := inG 1893 (by decide +kernel) (by decide +kernel)
theorem q_1894 : Cond.code yX12_burnOf cX12_burnOf 3 (some .int) ∈ GW := inG 1894 (by decide +kernel) (by decide +kernel)
theorem q_1899 : Cond.methodLink RX12 399 yX12_doesNeeds ∈ GW := inG 1899 (by decide +kernel) (by decide +kernel)
theorem q_1901 : Cond.instanceMethod yX12_doesNeeds ∈ GW := inG 1901 (by decide +kernel) (by decide +kernel)
theorem q_1902 : Cond.code yX12_doesNeeds cX12_doesNeeds 5 (some .int) ∈ GW := inG 1902 (by decide +kernel) (by decide +kernel)
theorem q_1903 : Cond.methodLink RX12 403 yX12_notes ∈ GW := inG 1903 (by decide +kernel) (by decide +kernel)
theorem q_1905 : Cond.instanceMethod yX12_notes ∈ GW := inG 1905 (by decide +kernel) (by decide +kernel)
theorem q_1906 : Cond.code yX12_notes cX12_notes 6 none ∈ GW := inG 1906 (by decide +kernel) (by decide +kernel)
theorem q_1907 : Cond.methodLink RX12 407 yX12_owes ∈ GW := inG 1907 (by decide +kernel) (by decide +kernel)
theorem q_1909 : Cond.instanceMethod yX12_owes ∈ GW := inG 1909 (by decide +kernel) (by decide +kernel)
theorem q_1910 : Cond.code yX12_owes cX12_owes 3 none ∈ GW := inG 1910 (by decide +kernel) (by decide +kernel)
theorem q_1915 : Cond.methodLink RX12 410 yX12_spoils ∈ GW := inG 1915 (by decide +kernel) (by decide +kernel)
theorem q_1917 : Cond.instanceMethod yX12_spoils ∈ GW := inG 1917 (by decide +kernel) (by decide +kernel)
theorem q_1918 : Cond.code yX12_spoils cX12_spoils 2 none ∈ GW := inG 1918 (by decide +kernel) (by decide +kernel)
theorem q_1919 : Cond.methodLink RX12 413 yX12_snows ∈ GW := inG 1919 (by decide +kernel) (by decide +kernel)
theorem q_1921 : Cond.instanceMethod yX12_snows ∈ GW := inG 1921 (by decide +kernel) (by decide +kernel)
theorem q_1922 : Cond.code yX12_snows cX12_snows 1 none ∈ GW := inG 1922 (by decide +kernel) (by decide +kernel)
theorem q_1933 : Cond.constant RX12 434 (-1000000) ∈ GW := inG 1933 (by decide +kernel) (by decide +kernel)
theorem q_1938 : Cond.methodLink RX12 438 yX12_enviedBy ∈ GW := inG 1938 (by decide +kernel) (by decide +kernel)
theorem q_1940 : Cond.instanceMethod yX12_enviedBy ∈ GW := inG 1940 (by decide +kernel) (by decide +kernel)
theorem q_1941 : Cond.code yX12_enviedBy cX12_enviedBy 4 (some .int) ∈ GW := inG 1941 (by decide +kernel) (by decide +kernel)
theorem q_1946 : Cond.methodLink RX12 441 yX12_seenBy ∈ GW := inG 1946 (by decide +kernel) (by decide +kernel)
theorem q_1948 : Cond.instanceMethod yX12_seenBy ∈ GW := inG 1948 (by decide +kernel) (by decide +kernel)
theorem q_1949 : Cond.code yX12_seenBy cX12_seenBy 4 (some .int) ∈ GW := inG 1949 (by decide +kernel) (by decide +kernel)
theorem q_1974 : Cond.methodLink RX12 459 yX12_goesFor ∈ GW := inG 1974 (by decide +kernel) (by decide +kernel)
theorem q_1976 : Cond.instanceMethod yX12_goesFor ∈ GW := inG 1976 (by decide +kernel) (by decide +kernel)
theorem q_1977 : Cond.code yX12_goesFor cX12_goesFor 4 (some .int) ∈ GW := inG 1977 (by decide +kernel) (by decide +kernel)
theorem q_1978 : Cond.methodLink RX12 444 yX12_thinks ∈ GW := inG 1978 (by decide +kernel) (by decide +kernel)
theorem q_1980 : Cond.instanceMethod yX12_thinks ∈ GW := inG 1980 (by decide +kernel) (by decide +kernel)
theorem q_1981 : Cond.code yX12_thinks cX12_thinks 2 none ∈ GW := inG 1981 (by decide +kernel) (by decide +kernel)
theorem q_1982 : Cond.methodLink RX12 456 yX12_endsThought ∈ GW := inG 1982 (by decide +kernel) (by decide +kernel)
theorem q_1984 : Cond.instanceMethod yX12_endsThought ∈ GW := inG 1984 (by decide +kernel) (by decide +kernel)
theorem q_1985 : Cond.code yX12_endsThought cX12_endsThought 2 none ∈ GW := inG 1985 (by decide +kernel) (by decide +kernel)
theorem q_90 : Cond.selects RX12 yX12_keepsAhead yX12_keepsAhead ∈ GW := inG 90 (by decide +kernel) (by decide +kernel)
theorem q_91 : Cond.selects RX12 yX12_goesBy yX12_goesBy ∈ GW := inG 91 (by decide +kernel) (by decide +kernel)
theorem q_92 : Cond.selects RX12 yX12_nextByRound yX12_nextByRound ∈ GW := inG 92 (by decide +kernel) (by decide +kernel)
theorem q_95 : Cond.selects RX12 yX12_nextByLaw yX12_nextByLaw ∈ GW := inG 95 (by decide +kernel) (by decide +kernel)
theorem q_96 : Cond.selects RX12 yX12_turnOfHouse yX12_turnOfHouse ∈ GW := inG 96 (by decide +kernel) (by decide +kernel)
theorem hdV_X12_burnOf : yX12_burnOf.cls = RX12 ∧ yX12_burnOf.cls ≠ "java/lang/invoke/MethodHandle" ∧ yX12_burnOf.cls ≠ "java/lang/invoke/VarHandle" ∧ (parseMethodDescriptor yX12_burnOf.desc).map (fun d => d.parameters.length) = some 1 := by decide +kernel
theorem hdV_X12_doesNeeds : yX12_doesNeeds.cls = RX12 ∧ yX12_doesNeeds.cls ≠ "java/lang/invoke/MethodHandle" ∧ yX12_doesNeeds.cls ≠ "java/lang/invoke/VarHandle" ∧ (parseMethodDescriptor yX12_doesNeeds.desc).map (fun d => d.parameters.length) = some 2 := by decide +kernel
theorem hdV_X12_endsThought : yX12_endsThought.cls = RX12 ∧ yX12_endsThought.cls ≠ "java/lang/invoke/MethodHandle" ∧ yX12_endsThought.cls ≠ "java/lang/invoke/VarHandle" ∧ (parseMethodDescriptor yX12_endsThought.desc).map (fun d => d.parameters.length) = some 0 := by decide +kernel
theorem hdV_X12_enviedBy : yX12_enviedBy.cls = RX12 ∧ yX12_enviedBy.cls ≠ "java/lang/invoke/MethodHandle" ∧ yX12_enviedBy.cls ≠ "java/lang/invoke/VarHandle" ∧ (parseMethodDescriptor yX12_enviedBy.desc).map (fun d => d.parameters.length) = some 1 := by decide +kernel
theorem hdV_X12_goesBy : yX12_goesBy.cls = RX12 ∧ yX12_goesBy.cls ≠ "java/lang/invoke/MethodHandle" ∧ yX12_goesBy.cls ≠ "java/lang/invoke/VarHandle" ∧ (parseMethodDescriptor yX12_goesBy.desc).map (fun d => d.parameters.length) = some 0 := by decide +kernel
theorem hdV_X12_goesFor : yX12_goesFor.cls = RX12 ∧ yX12_goesFor.cls ≠ "java/lang/invoke/MethodHandle" ∧ yX12_goesFor.cls ≠ "java/lang/invoke/VarHandle" ∧ (parseMethodDescriptor yX12_goesFor.desc).map (fun d => d.parameters.length) = some 1 := by decide +kernel
theorem hdV_X12_keepsAhead : yX12_keepsAhead.cls = RX12 ∧ yX12_keepsAhead.cls ≠ "java/lang/invoke/MethodHandle" ∧ yX12_keepsAhead.cls ≠ "java/lang/invoke/VarHandle" ∧ (parseMethodDescriptor yX12_keepsAhead.desc).map (fun d => d.parameters.length) = some 0 := by decide +kernel
theorem hdV_X12_nextByLaw : yX12_nextByLaw.cls = RX12 ∧ yX12_nextByLaw.cls ≠ "java/lang/invoke/MethodHandle" ∧ yX12_nextByLaw.cls ≠ "java/lang/invoke/VarHandle" ∧ (parseMethodDescriptor yX12_nextByLaw.desc).map (fun d => d.parameters.length) = some 0 := by decide +kernel
theorem hdV_X12_nextByRound : yX12_nextByRound.cls = RX12 ∧ yX12_nextByRound.cls ≠ "java/lang/invoke/MethodHandle" ∧ yX12_nextByRound.cls ≠ "java/lang/invoke/VarHandle" ∧ (parseMethodDescriptor yX12_nextByRound.desc).map (fun d => d.parameters.length) = some 0 := by decide +kernel
theorem hdV_X12_notes : yX12_notes.cls = RX12 ∧ yX12_notes.cls ≠ "java/lang/invoke/MethodHandle" ∧ yX12_notes.cls ≠ "java/lang/invoke/VarHandle" ∧ (parseMethodDescriptor yX12_notes.desc).map (fun d => d.parameters.length) = some 4 := by decide +kernel
theorem hdV_X12_owes : yX12_owes.cls = RX12 ∧ yX12_owes.cls ≠ "java/lang/invoke/MethodHandle" ∧ yX12_owes.cls ≠ "java/lang/invoke/VarHandle" ∧ (parseMethodDescriptor yX12_owes.desc).map (fun d => d.parameters.length) = some 0 := by decide +kernel
theorem hdV_X12_seenBy : yX12_seenBy.cls = RX12 ∧ yX12_seenBy.cls ≠ "java/lang/invoke/MethodHandle" ∧ yX12_seenBy.cls ≠ "java/lang/invoke/VarHandle" ∧ (parseMethodDescriptor yX12_seenBy.desc).map (fun d => d.parameters.length) = some 1 := by decide +kernel
theorem hdV_X12_snows : yX12_snows.cls = RX12 ∧ yX12_snows.cls ≠ "java/lang/invoke/MethodHandle" ∧ yX12_snows.cls ≠ "java/lang/invoke/VarHandle" ∧ (parseMethodDescriptor yX12_snows.desc).map (fun d => d.parameters.length) = some 0 := by decide +kernel
theorem hdV_X12_spoils : yX12_spoils.cls = RX12 ∧ yX12_spoils.cls ≠ "java/lang/invoke/MethodHandle" ∧ yX12_spoils.cls ≠ "java/lang/invoke/VarHandle" ∧ (parseMethodDescriptor yX12_spoils.desc).map (fun d => d.parameters.length) = some 0 := by decide +kernel
theorem hdV_X12_thinks : yX12_thinks.cls = RX12 ∧ yX12_thinks.cls ≠ "java/lang/invoke/MethodHandle" ∧ yX12_thinks.cls ≠ "java/lang/invoke/VarHandle" ∧ (parseMethodDescriptor yX12_thinks.desc).map (fun d => d.parameters.length) = some 0 := by decide +kernel
theorem hdV_X12_turnOfHouse : yX12_turnOfHouse.cls = RX12 ∧ yX12_turnOfHouse.cls ≠ "java/lang/invoke/MethodHandle" ∧ yX12_turnOfHouse.cls ≠ "java/lang/invoke/VarHandle" ∧ (parseMethodDescriptor yX12_turnOfHouse.desc).map (fun d => d.parameters.length) = some 1 := by decide +kernel
