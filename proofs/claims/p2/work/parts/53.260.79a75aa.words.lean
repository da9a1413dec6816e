theorem dX11_init_0 : decode cX11_init 0 = .ok (.aload_n 0, 1) := by decide +kernel
theorem dX11_init_1 : decode cX11_init 1 = .ok (.invokespecial 3, 3) := by decide +kernel
theorem dX11_init_4 : decode cX11_init 4 = .ok (.aload_n 0, 1) := by decide +kernel
theorem dX11_init_5 : decode cX11_init 5 = .ok (.new 9, 3) := by decide +kernel
theorem dX11_init_8 : decode cX11_init 8 = .ok (.dup, 1) := by decide +kernel
theorem dX11_init_9 : decode cX11_init 9 = .ok (.invokespecial 11, 3) := by decide +kernel
theorem dX11_init_12 : decode cX11_init 12 = .ok (.putfield 12, 3) := by decide +kernel
theorem dX11_init_15 : decode cX11_init 15 = .ok (.aload_n 0, 1) := by decide +kernel
theorem dX11_init_16 : decode cX11_init 16 = .ok (.new 16, 3) := by decide +kernel
theorem dX11_init_19 : decode cX11_init 19 = .ok (.dup, 1) := by decide +kernel
theorem dX11_init_20 : decode cX11_init 20 = .ok (.invokespecial 18, 3) := by decide +kernel
theorem dX11_init_23 : decode cX11_init 23 = .ok (.putfield 19, 3) := by decide +kernel
theorem dX11_init_26 : decode cX11_init 26 = .ok (.aload_n 0, 1) := by decide +kernel
theorem dX11_init_27 : decode cX11_init 27 = .ok (.new 23, 3) := by decide +kernel
theorem dX11_init_30 : decode cX11_init 30 = .ok (.dup, 1) := by decide +kernel
theorem dX11_init_31 : decode cX11_init 31 = .ok (.invokespecial 25, 3) := by decide +kernel
theorem dX11_init_34 : decode cX11_init 34 = .ok (.putfield 26, 3) := by decide +kernel
theorem dX11_init_37 : decode cX11_init 37 = .ok (.aload_n 0, 1) := by decide +kernel
theorem dX11_init_38 : decode cX11_init 38 = .ok (.new 30, 3) := by decide +kernel
theorem dX11_init_41 : decode cX11_init 41 = .ok (.dup, 1) := by decide +kernel
theorem dX11_init_42 : decode cX11_init 42 = .ok (.invokespecial 32, 3) := by decide +kernel
theorem dX11_init_45 : decode cX11_init 45 = .ok (.putfield 33, 3) := by decide +kernel
theorem dX11_init_48 : decode cX11_init 48 = .ok (.aload_n 0, 1) := by decide +kernel
theorem dX11_init_49 : decode cX11_init 49 = .ok (.new 37, 3) := by decide +kernel
theorem dX11_init_52 : decode cX11_init 52 = .ok (.dup, 1) := by decide +kernel
theorem dX11_init_53 : decode cX11_init 53 = .ok (.invokespecial 39, 3) := by decide +kernel
theorem dX11_init_56 : decode cX11_init 56 = .ok (.putfield 40, 3) := by decide +kernel
theorem dX11_init_59 : decode cX11_init 59 = .ok (.aload_n 0, 1) := by decide +kernel
theorem dX11_init_60 : decode cX11_init 60 = .ok (.new 44, 3) := by decide +kernel
theorem dX11_init_63 : decode cX11_init 63 = .ok (.dup, 1) := by decide +kernel
theorem dX11_init_64 : decode cX11_init 64 = .ok (.invokespecial 46, 3) := by decide +kernel
theorem dX11_init_67 : decode cX11_init 67 = .ok (.putfield 47, 3) := by decide +kernel
theorem dX11_init_70 : decode cX11_init 70 = .ok (.aload_n 0, 1) := by decide +kernel
theorem dX11_init_71 : decode cX11_init 71 = .ok (.new 51, 3) := by decide +kernel
theorem dX11_init_74 : decode cX11_init 74 = .ok (.dup, 1) := by decide +kernel
theorem dX11_init_75 : decode cX11_init 75 = .ok (.invokespecial 53, 3) := by decide +kernel
theorem dX11_init_78 : decode cX11_init 78 = .ok (.putfield 54, 3) := by decide +kernel
theorem dX11_init_81 : decode cX11_init 81 = .ok (.aload_n 0, 1) := by decide +kernel
theorem dX11_init_82 : decode cX11_init 82 = .ok (.new 58, 3) := by decide +kernel
theorem dX11_init_85 : decode cX11_init 85 = .ok (.dup, 1) := by decide +kernel
theorem dX11_init_86 : decode cX11_init 86 = .ok (.invokespecial 60, 3) := by decide +kernel
theorem dX11_init_89 : decode cX11_init 89 = .ok (.putfield 61, 3) := by decide +kernel
theorem dX11_init_92 : decode cX11_init 92 = .ok (.aload_n 0, 1) := by decide +kernel
theorem dX11_init_93 : decode cX11_init 93 = .ok (.bipush 6, 2) := by decide +kernel
theorem dX11_init_95 : decode cX11_init 95 = .ok (.anewarray 51, 3) := by decide +kernel
theorem dX11_init_98 : decode cX11_init 98 = .ok (.putfield 65, 3) := by decide +kernel
theorem dX11_init_101 : decode cX11_init 101 = .ok (.iconst 0, 1) := by decide +kernel
theorem dX11_init_102 : decode cX11_init 102 = .ok (.istore_n 1, 1) := by decide +kernel
theorem dX11_init_103 : decode cX11_init 103 = .ok (.iload_n 1, 1) := by decide +kernel
theorem dX11_init_104 : decode cX11_init 104 = .ok (.bipush 6, 2) := by decide +kernel
theorem dX11_init_106 : decode cX11_init 106 = .ok (.if_icmp .ge 22, 3) := by decide +kernel
theorem dX11_init_109 : decode cX11_init 109 = .ok (.aload_n 0, 1) := by decide +kernel
theorem dX11_init_110 : decode cX11_init 110 = .ok (.getfield 65, 3) := by decide +kernel
theorem dX11_init_113 : decode cX11_init 113 = .ok (.iload_n 1, 1) := by decide +kernel
theorem dX11_init_114 : decode cX11_init 114 = .ok (.new 51, 3) := by decide +kernel
theorem dX11_init_117 : decode cX11_init 117 = .ok (.dup, 1) := by decide +kernel
theorem dX11_init_118 : decode cX11_init 118 = .ok (.invokespecial 53, 3) := by decide +kernel
theorem dX11_init_121 : decode cX11_init 121 = .ok (.aastore, 1) := by decide +kernel
theorem dX11_init_122 : decode cX11_init 122 = .ok (.iinc 1 1, 3) := by decide +kernel
theorem dX11_init_125 : decode cX11_init 125 = .ok (.goto (-22), 3) := by decide +kernel
theorem dX11_init_128 : decode cX11_init 128 = .ok (.return_, 1) := by decide +kernel
theorem dX12_init_0 : decode cX12_init 0 = .ok (.aload_n 0, 1) := by decide +kernel
theorem dX12_init_1 : decode cX12_init 1 = .ok (.invokespecial 1, 3) := by decide +kernel
theorem dX12_init_4 : decode cX12_init 4 = .ok (.aload_n 0, 1) := by decide +kernel
theorem dX12_init_5 : decode cX12_init 5 = .ok (.bipush 66, 2) := by decide +kernel
theorem dX12_init_7 : decode cX12_init 7 = .ok (.newarray .int, 2) := by decide +kernel
theorem dX12_init_9 : decode cX12_init 9 = .ok (.putfield 7, 3) := by decide +kernel
theorem dX12_init_12 : decode cX12_init 12 = .ok (.aload_n 0, 1) := by decide +kernel
theorem dX12_init_13 : decode cX12_init 13 = .ok (.sipush 396, 3) := by decide +kernel
theorem dX12_init_16 : decode cX12_init 16 = .ok (.newarray .int, 2) := by decide +kernel
theorem dX12_init_18 : decode cX12_init 18 = .ok (.putfield 13, 3) := by decide +kernel
theorem dX12_init_21 : decode cX12_init 21 = .ok (.aload_n 0, 1) := by decide +kernel
theorem dX12_init_22 : decode cX12_init 22 = .ok (.bipush 66, 2) := by decide +kernel
theorem dX12_init_24 : decode cX12_init 24 = .ok (.newarray .int, 2) := by decide +kernel
theorem dX12_init_26 : decode cX12_init 26 = .ok (.putfield 16, 3) := by decide +kernel
theorem dX12_init_29 : decode cX12_init 29 = .ok (.aload_n 0, 1) := by decide +kernel
theorem dX12_init_30 : decode cX12_init 30 = .ok (.bipush 10, 2) := by decide +kernel
theorem dX12_init_32 : decode cX12_init 32 = .ok (.newarray .int, 2) := by decide +kernel
theorem dX12_init_34 : decode cX12_init 34 = .ok (.putfield 19, 3) := by decide +kernel
theorem dX12_init_37 : decode cX12_init 37 = .ok (.aload_n 0, 1) := by decide +kernel
theorem dX12_init_38 : decode cX12_init 38 = .ok (.bipush 10, 2) := by decide +kernel
theorem dX12_init_40 : decode cX12_init 40 = .ok (.newarray .int, 2) := by decide +kernel
theorem dX12_init_42 : decode cX12_init 42 = .ok (.putfield 22, 3) := by decide +kernel
theorem dX12_init_45 : decode cX12_init 45 = .ok (.aload_n 0, 1) := by decide +kernel
theorem dX12_init_46 : decode cX12_init 46 = .ok (.bipush 10, 2) := by decide +kernel
theorem dX12_init_48 : decode cX12_init 48 = .ok (.newarray .int, 2) := by decide +kernel
theorem dX12_init_50 : decode cX12_init 50 = .ok (.putfield 25, 3) := by decide +kernel
theorem dX12_init_53 : decode cX12_init 53 = .ok (.aload_n 0, 1) := by decide +kernel
theorem dX12_init_54 : decode cX12_init 54 = .ok (.bipush 10, 2) := by decide +kernel
theorem dX12_init_56 : decode cX12_init 56 = .ok (.newarray .int, 2) := by decide +kernel
theorem dX12_init_58 : decode cX12_init 58 = .ok (.putfield 28, 3) := by decide +kernel
theorem dX12_init_61 : decode cX12_init 61 = .ok (.aload_n 0, 1) := by decide +kernel
theorem dX12_init_62 : decode cX12_init 62 = .ok (.bipush 10, 2) := by decide +kernel
theorem dX12_init_64 : decode cX12_init 64 = .ok (.newarray .int, 2) := by decide +kernel
theorem dX12_init_66 : decode cX12_init 66 = .ok (.putfield 31, 3) := by decide +kernel
theorem dX12_init_69 : decode cX12_init 69 = .ok (.aload_n 0, 1) := by decide +kernel
theorem dX12_init_70 : decode cX12_init 70 = .ok (.sipush 900, 3) := by decide +kernel
theorem dX12_init_73 : decode cX12_init 73 = .ok (.newarray .int, 2) := by decide +kernel
theorem dX12_init_75 : decode cX12_init 75 = .ok (.putfield 34, 3) := by decide +kernel
theorem dX12_init_78 : decode cX12_init 78 = .ok (.aload_n 0, 1) := by decide +kernel
theorem dX12_init_79 : decode cX12_init 79 = .ok (.bipush 8, 2) := by decide +kernel
theorem dX12_init_81 : decode cX12_init 81 = .ok (.newarray .int, 2) := by decide +kernel
theorem dX12_init_83 : decode cX12_init 83 = .ok (.putfield 37, 3) := by decide +kernel
theorem dX12_init_86 : decode cX12_init 86 = .ok (.aload_n 0, 1) := by decide +kernel
theorem dX12_init_87 : decode cX12_init 87 = .ok (.bipush 8, 2) := by decide +kernel
theorem dX12_init_89 : decode cX12_init 89 = .ok (.newarray .int, 2) := by decide +kernel
theorem dX12_init_91 : decode cX12_init 91 = .ok (.putfield 40, 3) := by decide +kernel
theorem dX12_init_94 : decode cX12_init 94 = .ok (.aload_n 0, 1) := by decide +kernel
theorem dX12_init_95 : decode cX12_init 95 = .ok (.sipush 400, 3) := by decide +kernel
theorem dX12_init_98 : decode cX12_init 98 = .ok (.newarray .int, 2) := by decide +kernel
theorem dX12_init_100 : decode cX12_init 100 = .ok (.putfield 43, 3) := by decide +kernel
theorem dX12_init_103 : decode cX12_init 103 = .ok (.aload_n 0, 1) := by decide +kernel
theorem dX12_init_104 : decode cX12_init 104 = .ok (.sipush 154, 3) := by decide +kernel
theorem dX12_init_107 : decode cX12_init 107 = .ok (.newarray .int, 2) := by decide +kernel
theorem dX12_init_109 : decode cX12_init 109 = .ok (.dup, 1) := by decide +kernel
theorem dX12_init_110 : decode cX12_init 110 = .ok (.iconst 0, 1) := by decide +kernel
theorem dX12_init_111 : decode cX12_init 111 = .ok (.bipush 32, 2) := by decide +kernel
theorem dX12_init_113 : decode cX12_init 113 = .ok (.iastore, 1) := by decide +kernel
theorem dX12_init_114 : decode cX12_init 114 = .ok (.dup, 1) := by decide +kernel
theorem dX12_init_115 : decode cX12_init 115 = .ok (.iconst 1, 1) := by decide +kernel
theorem dX12_init_116 : decode cX12_init 116 = .ok (.bipush 116, 2) := by decide +kernel
theorem dX12_init_118 : decode cX12_init 118 = .ok (.iastore, 1) := by decide +kernel
theorem dX12_init_119 : decode cX12_init 119 = .ok (.dup, 1) := by decide +kernel
theorem dX12_init_120 : decode cX12_init 120 = .ok (.iconst 2, 1) := by decide +kernel
theorem dX12_init_121 : decode cX12_init 121 = .ok (.bipush 117, 2) := by decide +kernel
theorem dX12_init_123 : decode cX12_init 123 = .ok (.iastore, 1) := by decide +kernel
theorem dX12_init_124 : decode cX12_init 124 = .ok (.dup, 1) := by decide +kernel
theorem dX12_init_125 : decode cX12_init 125 = .ok (.iconst 3, 1) := by decide +kernel
theorem dX12_init_126 : decode cX12_init 126 = .ok (.bipush 114, 2) := by decide +kernel
theorem dX12_init_128 : decode cX12_init 128 = .ok (.iastore, 1) := by decide +kernel
theorem dX12_init_129 : decode cX12_init 129 = .ok (.dup, 1) := by decide +kernel
theorem dX12_init_130 : decode cX12_init 130 = .ok (.iconst 4, 1) := by decide +kernel
theorem dX12_init_131 : decode cX12_init 131 = .ok (.bipush 110, 2) := by decide +kernel
theorem dX12_init_133 : decode cX12_init 133 = .ok (.iastore, 1) := by decide +kernel
theorem dX12_init_134 : decode cX12_init 134 = .ok (.dup, 1) := by decide +kernel
theorem dX12_init_135 : decode cX12_init 135 = .ok (.iconst 5, 1) := by decide +kernel
theorem dX12_init_136 : decode cX12_init 136 = .ok (.bipush 32, 2) := by decide +kernel
theorem dX12_init_138 : decode cX12_init 138 = .ok (.iastore, 1) := by decide +kernel
theorem dX12_init_139 : decode cX12_init 139 = .ok (.dup, 1) := by decide +kernel
theorem dX12_init_140 : decode cX12_init 140 = .ok (.bipush 6, 2) := by decide +kernel
theorem dX12_init_142 : decode cX12_init 142 = .ok (.bipush 98, 2) := by decide +kernel
theorem dX12_init_144 : decode cX12_init 144 = .ok (.iastore, 1) := by decide +kernel
theorem dX12_init_145 : decode cX12_init 145 = .ok (.dup, 1) := by decide +kernel
theorem dX12_init_146 : decode cX12_init 146 = .ok (.bipush 7, 2) := by decide +kernel
theorem dX12_init_148 : decode cX12_init 148 = .ok (.bipush 117, 2) := by decide +kernel
theorem dX12_init_150 : decode cX12_init 150 = .ok (.iastore, 1) := by decide +kernel
theorem dX12_init_151 : decode cX12_init 151 = .ok (.dup, 1) := by decide +kernel
theorem dX12_init_152 : decode cX12_init 152 = .ok (.bipush 8, 2) := by decide +kernel
theorem dX12_init_154 : decode cX12_init 154 = .ok (.bipush 114, 2) := by decide +kernel
theorem dX12_init_156 : decode cX12_init 156 = .ok (.iastore, 1) := by decide +kernel
theorem dX12_init_157 : decode cX12_init 157 = .ok (.dup, 1) := by decide +kernel
theorem dX12_init_158 : decode cX12_init 158 = .ok (.bipush 9, 2) := by decide +kernel
theorem dX12_init_160 : decode cX12_init 160 = .ok (.bipush 110, 2) := by decide +kernel
theorem dX12_init_162 : decode cX12_init 162 = .ok (.iastore, 1) := by decide +kernel
theorem dX12_init_163 : decode cX12_init 163 = .ok (.dup, 1) := by decide +kernel
theorem dX12_init_164 : decode cX12_init 164 = .ok (.bipush 10, 2) := by decide +kernel
theorem dX12_init_166 : decode cX12_init 166 = .ok (.bipush 32, 2) := by decide +kernel
theorem dX12_init_168 : decode cX12_init 168 = .ok (.iastore, 1) := by decide +kernel
theorem dX12_init_169 : decode cX12_init 169 = .ok (.dup, 1) := by decide +kernel
theorem dX12_init_170 : decode cX12_init 170 = .ok (.bipush 11, 2) := by decide +kernel
theorem dX12_init_172 : decode cX12_init 172 = .ok (.bipush 119, 2) := by decide +kernel
theorem dX12_init_174 : decode cX12_init 174 = .ok (.iastore, 1) := by decide +kernel
theorem dX12_init_175 : decode cX12_init 175 = .ok (.dup, 1) := by decide +kernel
theorem dX12_init_176 : decode cX12_init 176 = .ok (.bipush 12, 2) := by decide +kernel
theorem dX12_init_178 : decode cX12_init 178 = .ok (.bipush 104, 2) := by decide +kernel
theorem dX12_init_180 : decode cX12_init 180 = .ok (.iastore, 1) := by decide +kernel
theorem dX12_init_181 : decode cX12_init 181 = .ok (.dup, 1) := by decide +kernel
theorem dX12_init_182 : decode cX12_init 182 = .ok (.bipush 13, 2) := by decide +kernel
theorem dX12_init_184 : decode cX12_init 184 = .ok (.bipush 101, 2) := by decide +kernel
theorem dX12_init_186 : decode cX12_init 186 = .ok (.iastore, 1) := by decide +kernel
theorem dX12_init_187 : decode cX12_init 187 = .ok (.dup, 1) := by decide +kernel
theorem dX12_init_188 : decode cX12_init 188 = .ok (.bipush 14, 2) := by decide +kernel
theorem dX12_init_190 : decode cX12_init 190 = .ok (.bipush 110, 2) := by decide +kernel
theorem dX12_init_192 : decode cX12_init 192 = .ok (.iastore, 1) := by decide +kernel
theorem dX12_init_193 : decode cX12_init 193 = .ok (.dup, 1) := by decide +kernel
theorem dX12_init_194 : decode cX12_init 194 = .ok (.bipush 15, 2) := by decide +kernel
theorem dX12_init_196 : decode cX12_init 196 = .ok (.bipush 32, 2) := by decide +kernel
theorem dX12_init_198 : decode cX12_init 198 = .ok (.iastore, 1) := by decide +kernel
theorem dX12_init_199 : decode cX12_init 199 = .ok (.dup, 1) := by decide +kernel
theorem dX12_init_200 : decode cX12_init 200 = .ok (.bipush 16, 2) := by decide +kernel
theorem dX12_init_202 : decode cX12_init 202 = .ok (.bipush 111, 2) := by decide +kernel
theorem dX12_init_204 : decode cX12_init 204 = .ok (.iastore, 1) := by decide +kernel
theorem dX12_init_205 : decode cX12_init 205 = .ok (.dup, 1) := by decide +kernel
theorem dX12_init_206 : decode cX12_init 206 = .ok (.bipush 17, 2) := by decide +kernel
theorem dX12_init_208 : decode cX12_init 208 = .ok (.bipush 114, 2) := by decide +kernel
theorem dX12_init_210 : decode cX12_init 210 = .ok (.iastore, 1) := by decide +kernel
theorem dX12_init_211 : decode cX12_init 211 = .ok (.dup, 1) := by decide +kernel
theorem dX12_init_212 : decode cX12_init 212 = .ok (.bipush 18, 2) := by decide +kernel
theorem dX12_init_214 : decode cX12_init 214 = .ok (.bipush 32, 2) := by decide +kernel
theorem dX12_init_216 : decode cX12_init 216 = .ok (.iastore, 1) := by decide +kernel
theorem dX12_init_217 : decode cX12_init 217 = .ok (.dup, 1) := by decide +kernel
theorem dX12_init_218 : decode cX12_init 218 = .ok (.bipush 19, 2) := by decide +kernel
theorem dX12_init_220 : decode cX12_init 220 = .ok (.bipush 97, 2) := by decide +kernel
theorem dX12_init_222 : decode cX12_init 222 = .ok (.iastore, 1) := by decide +kernel
theorem dX12_init_223 : decode cX12_init 223 = .ok (.dup, 1) := by decide +kernel
theorem dX12_init_224 : decode cX12_init 224 = .ok (.bipush 20, 2) := by decide +kernel
theorem dX12_init_226 : decode cX12_init 226 = .ok (.bipush 110, 2) := by decide +kernel
theorem dX12_init_228 : decode cX12_init 228 = .ok (.iastore, 1) := by decide +kernel
theorem dX12_init_229 : decode cX12_init 229 = .ok (.dup, 1) := by decide +kernel
theorem dX12_init_230 : decode cX12_init 230 = .ok (.bipush 21, 2) := by decide +kernel
theorem dX12_init_232 : decode cX12_init 232 = .ok (.bipush 100, 2) := by decide +kernel
theorem dX12_init_234 : decode cX12_init 234 = .ok (.iastore, 1) := by decide +kernel
theorem dX12_init_235 : decode cX12_init 235 = .ok (.dup, 1) := by decide +kernel
theorem dX12_init_236 : decode cX12_init 236 = .ok (.bipush 22, 2) := by decide +kernel
theorem dX12_init_238 : decode cX12_init 238 = .ok (.bipush 32, 2) := by decide +kernel
theorem dX12_init_240 : decode cX12_init 240 = .ok (.iastore, 1) := by decide +kernel
theorem dX12_init_241 : decode cX12_init 241 = .ok (.dup, 1) := by decide +kernel
theorem dX12_init_242 : decode cX12_init 242 = .ok (.bipush 23, 2) := by decide +kernel
theorem dX12_init_244 : decode cX12_init 244 = .ok (.bipush 110, 2) := by decide +kernel
theorem dX12_init_246 : decode cX12_init 246 = .ok (.iastore, 1) := by decide +kernel
theorem dX12_init_247 : decode cX12_init 247 = .ok (.dup, 1) := by decide +kernel
theorem dX12_init_248 : decode cX12_init 248 = .ok (.bipush 24, 2) := by decide +kernel
theorem dX12_init_250 : decode cX12_init 250 = .ok (.bipush 111, 2) := by decide +kernel
theorem dX12_init_252 : decode cX12_init 252 = .ok (.iastore, 1) := by decide +kernel
theorem dX12_init_253 : decode cX12_init 253 = .ok (.dup, 1) := by decide +kernel
theorem dX12_init_254 : decode cX12_init 254 = .ok (.bipush 25, 2) := by decide +kernel
theorem dX12_init_256 : decode cX12_init 256 = .ok (.bipush 116, 2) := by decide +kernel
theorem dX12_init_258 : decode cX12_init 258 = .ok (.iastore, 1) := by decide +kernel
theorem dX12_init_259 : decode cX12_init 259 = .ok (.dup, 1) := by decide +kernel
theorem dX12_init_260 : decode cX12_init 260 = .ok (.bipush 26, 2) := by decide +kernel
theorem dX12_init_262 : decode cX12_init 262 = .ok (.bipush 32, 2) := by decide +kernel
theorem dX12_init_264 : decode cX12_init 264 = .ok (.iastore, 1) := by decide +kernel
theorem dX12_init_265 : decode cX12_init 265 = .ok (.dup, 1) := by decide +kernel
theorem dX12_init_266 : decode cX12_init 266 = .ok (.bipush 27, 2) := by decide +kernel
theorem dX12_init_268 : decode cX12_init 268 = .ok (.bipush 104, 2) := by decide +kernel
theorem dX12_init_270 : decode cX12_init 270 = .ok (.iastore, 1) := by decide +kernel
theorem dX12_init_271 : decode cX12_init 271 = .ok (.dup, 1) := by decide +kernel
theorem dX12_init_272 : decode cX12_init 272 = .ok (.bipush 28, 2) := by decide +kernel
theorem dX12_init_274 : decode cX12_init 274 = .ok (.bipush 111, 2) := by decide +kernel
theorem dX12_init_276 : decode cX12_init 276 = .ok (.iastore, 1) := by decide +kernel
theorem dX12_init_277 : decode cX12_init 277 = .ok (.dup, 1) := by decide +kernel
theorem dX12_init_278 : decode cX12_init 278 = .ok (.bipush 29, 2) := by decide +kernel
theorem dX12_init_280 : decode cX12_init 280 = .ok (.bipush 117, 2) := by decide +kernel
theorem dX12_init_282 : decode cX12_init 282 = .ok (.iastore, 1) := by decide +kernel
theorem dX12_init_283 : decode cX12_init 283 = .ok (.dup, 1) := by decide +kernel
theorem dX12_init_284 : decode cX12_init 284 = .ok (.bipush 30, 2) := by decide +kernel
theorem dX12_init_286 : decode cX12_init 286 = .ok (.bipush 115, 2) := by decide +kernel
theorem dX12_init_288 : decode cX12_init 288 = .ok (.iastore, 1) := by decide +kernel
theorem dX12_init_289 : decode cX12_init 289 = .ok (.dup, 1) := by decide +kernel
theorem dX12_init_290 : decode cX12_init 290 = .ok (.bipush 31, 2) := by decide +kernel
theorem dX12_init_292 : decode cX12_init 292 = .ok (.bipush 101, 2) := by decide +kernel
theorem dX12_init_294 : decode cX12_init 294 = .ok (.iastore, 1) := by decide +kernel
theorem dX12_init_295 : decode cX12_init 295 = .ok (.dup, 1) := by decide +kernel
theorem dX12_init_296 : decode cX12_init 296 = .ok (.bipush 32, 2) := by decide +kernel
theorem dX12_init_298 : decode cX12_init 298 = .ok (.bipush 32, 2) := by decide +kernel
theorem dX12_init_300 : decode cX12_init 300 = .ok (.iastore, 1) := by decide +kernel
theorem dX12_init_301 : decode cX12_init 301 = .ok (.dup, 1) := by decide +kernel
theorem dX12_init_302 : decode cX12_init 302 = .ok (.bipush 33, 2) := by decide +kernel
theorem dX12_init_304 : decode cX12_init 304 = .ok (.bipush 111, 2) := by decide +kernel
theorem dX12_init_306 : decode cX12_init 306 = .ok (.iastore, 1) := by decide +kernel
