theorem dX12_image_0 : decode cX12_image 0 = .ok (.aload_n 0, 1) := by decide +kernel
theorem dX12_image_1 : decode cX12_image 1 = .ok (.iconst 0, 1) := by decide +kernel
theorem dX12_image_2 : decode cX12_image 2 = .ok (.putfield 130, 3) := by decide +kernel
theorem dX12_image_5 : decode cX12_image 5 = .ok (.iload_n 1, 1) := by decide +kernel
theorem dX12_image_6 : decode cX12_image 6 = .ok (.ifCond .ne 12, 3) := by decide +kernel
theorem dX12_image_9 : decode cX12_image 9 = .ok (.aload_n 0, 1) := by decide +kernel
theorem dX12_image_10 : decode cX12_image 10 = .ok (.getfield 549, 3) := by decide +kernel
theorem dX12_image_13 : decode cX12_image 13 = .ok (.ifCond .ne 5, 3) := by decide +kernel
theorem dX12_image_16 : decode cX12_image 16 = .ok (.iconst 0, 1) := by decide +kernel
theorem dX12_image_17 : decode cX12_image 17 = .ok (.ireturn, 1) := by decide +kernel
theorem dX12_image_18 : decode cX12_image 18 = .ok (.aload_n 0, 1) := by decide +kernel
theorem dX12_image_19 : decode cX12_image 19 = .ok (.iload_n 1, 1) := by decide +kernel
theorem dX12_image_20 : decode cX12_image 20 = .ok (.putfield 543, 3) := by decide +kernel
theorem dX12_image_23 : decode cX12_image 23 = .ok (.aload_n 0, 1) := by decide +kernel
theorem dX12_image_24 : decode cX12_image 24 = .ok (.iconst 1, 1) := by decide +kernel
theorem dX12_image_25 : decode cX12_image 25 = .ok (.putfield 549, 3) := by decide +kernel
theorem dX12_image_28 : decode cX12_image 28 = .ok (.aload_n 0, 1) := by decide +kernel
theorem dX12_image_29 : decode cX12_image 29 = .ok (.iconst 0, 1) := by decide +kernel
theorem dX12_image_30 : decode cX12_image 30 = .ok (.putfield 540, 3) := by decide +kernel
theorem dX12_image_33 : decode cX12_image 33 = .ok (.iconst 0, 1) := by decide +kernel
theorem dX12_image_34 : decode cX12_image 34 = .ok (.istore_n 2, 1) := by decide +kernel
theorem dX12_image_35 : decode cX12_image 35 = .ok (.iload_n 2, 1) := by decide +kernel
theorem dX12_image_36 : decode cX12_image 36 = .ok (.bipush 66, 2) := by decide +kernel
theorem dX12_image_38 : decode cX12_image 38 = .ok (.if_icmp .ge 25, 3) := by decide +kernel
theorem dX12_image_41 : decode cX12_image 41 = .ok (.aload_n 0, 1) := by decide +kernel
theorem dX12_image_42 : decode cX12_image 42 = .ok (.getfield 7, 3) := by decide +kernel
theorem dX12_image_45 : decode cX12_image 45 = .ok (.iload_n 2, 1) := by decide +kernel
theorem dX12_image_46 : decode cX12_image 46 = .ok (.aload_n 0, 1) := by decide +kernel
theorem dX12_image_47 : decode cX12_image 47 = .ok (.aload_n 0, 1) := by decide +kernel
theorem dX12_image_48 : decode cX12_image 48 = .ok (.getfield 7, 3) := by decide +kernel
theorem dX12_image_51 : decode cX12_image 51 = .ok (.iload_n 2, 1) := by decide +kernel
theorem dX12_image_52 : decode cX12_image 52 = .ok (.iaload, 1) := by decide +kernel
theorem dX12_image_53 : decode cX12_image 53 = .ok (.invokevirtual 546, 3) := by decide +kernel
theorem dX12_image_56 : decode cX12_image 56 = .ok (.iastore, 1) := by decide +kernel
theorem dX12_image_57 : decode cX12_image 57 = .ok (.iinc 2 1, 3) := by decide +kernel
theorem dX12_image_60 : decode cX12_image 60 = .ok (.goto (-25), 3) := by decide +kernel
theorem dX12_image_63 : decode cX12_image 63 = .ok (.aload_n 0, 1) := by decide +kernel
theorem dX12_image_64 : decode cX12_image 64 = .ok (.invokevirtual 552, 3) := by decide +kernel
theorem dX12_image_67 : decode cX12_image 67 = .ok (.aload_n 0, 1) := by decide +kernel
theorem dX12_image_68 : decode cX12_image 68 = .ok (.invokevirtual 555, 3) := by decide +kernel
theorem dX12_image_71 : decode cX12_image 71 = .ok (.iconst 0, 1) := by decide +kernel
theorem dX12_image_72 : decode cX12_image 72 = .ok (.istore_n 2, 1) := by decide +kernel
theorem dX12_image_73 : decode cX12_image 73 = .ok (.iload_n 2, 1) := by decide +kernel
theorem dX12_image_74 : decode cX12_image 74 = .ok (.sipush 900, 3) := by decide +kernel
theorem dX12_image_77 : decode cX12_image 77 = .ok (.if_icmp .ge 25, 3) := by decide +kernel
theorem dX12_image_80 : decode cX12_image 80 = .ok (.aload_n 0, 1) := by decide +kernel
theorem dX12_image_81 : decode cX12_image 81 = .ok (.getfield 34, 3) := by decide +kernel
theorem dX12_image_84 : decode cX12_image 84 = .ok (.iload_n 2, 1) := by decide +kernel
theorem dX12_image_85 : decode cX12_image 85 = .ok (.aload_n 0, 1) := by decide +kernel
theorem dX12_image_86 : decode cX12_image 86 = .ok (.aload_n 0, 1) := by decide +kernel
theorem dX12_image_87 : decode cX12_image 87 = .ok (.getfield 34, 3) := by decide +kernel
theorem dX12_image_90 : decode cX12_image 90 = .ok (.iload_n 2, 1) := by decide +kernel
theorem dX12_image_91 : decode cX12_image 91 = .ok (.iaload, 1) := by decide +kernel
theorem dX12_image_92 : decode cX12_image 92 = .ok (.invokevirtual 546, 3) := by decide +kernel
theorem dX12_image_95 : decode cX12_image 95 = .ok (.iastore, 1) := by decide +kernel
theorem dX12_image_96 : decode cX12_image 96 = .ok (.iinc 2 1, 3) := by decide +kernel
theorem dX12_image_99 : decode cX12_image 99 = .ok (.goto (-26), 3) := by decide +kernel
theorem dX12_image_102 : decode cX12_image 102 = .ok (.aload_n 0, 1) := by decide +kernel
theorem dX12_image_103 : decode cX12_image 103 = .ok (.iconst 0, 1) := by decide +kernel
theorem dX12_image_104 : decode cX12_image 104 = .ok (.invokevirtual 558, 3) := by decide +kernel
theorem dX12_image_107 : decode cX12_image 107 = .ok (.aload_n 0, 1) := by decide +kernel
theorem dX12_image_108 : decode cX12_image 108 = .ok (.iconst 1, 1) := by decide +kernel
theorem dX12_image_109 : decode cX12_image 109 = .ok (.invokevirtual 558, 3) := by decide +kernel
theorem dX12_image_112 : decode cX12_image 112 = .ok (.iload_n 1, 1) := by decide +kernel
theorem dX12_image_113 : decode cX12_image 113 = .ok (.ifCond .ne 8, 3) := by decide +kernel
theorem dX12_image_116 : decode cX12_image 116 = .ok (.aload_n 0, 1) := by decide +kernel
theorem dX12_image_117 : decode cX12_image 117 = .ok (.iconst 0, 1) := by decide +kernel
theorem dX12_image_118 : decode cX12_image 118 = .ok (.putfield 133, 3) := by decide +kernel
theorem dX12_image_121 : decode cX12_image 121 = .ok (.iconst 1, 1) := by decide +kernel
theorem dX12_image_122 : decode cX12_image 122 = .ok (.ireturn, 1) := by decide +kernel
theorem dX12_keepsLaw_0 : decode cX12_keepsLaw 0 = .ok (.aload_n 0, 1) := by decide +kernel
theorem dX12_keepsLaw_1 : decode cX12_keepsLaw 1 = .ok (.getfield 49, 3) := by decide +kernel
theorem dX12_keepsLaw_4 : decode cX12_keepsLaw 4 = .ok (.iload_n 1, 1) := by decide +kernel
theorem dX12_keepsLaw_5 : decode cX12_keepsLaw 5 = .ok (.aload_n 0, 1) := by decide +kernel
theorem dX12_keepsLaw_6 : decode cX12_keepsLaw 6 = .ok (.aload_n 0, 1) := by decide +kernel
theorem dX12_keepsLaw_7 : decode cX12_keepsLaw 7 = .ok (.getfield 49, 3) := by decide +kernel
theorem dX12_keepsLaw_10 : decode cX12_keepsLaw 10 = .ok (.iload_n 1, 1) := by decide +kernel
theorem dX12_keepsLaw_11 : decode cX12_keepsLaw 11 = .ok (.iaload, 1) := by decide +kernel
theorem dX12_keepsLaw_12 : decode cX12_keepsLaw 12 = .ok (.invokevirtual 546, 3) := by decide +kernel
theorem dX12_keepsLaw_15 : decode cX12_keepsLaw 15 = .ok (.iastore, 1) := by decide +kernel
theorem dX12_keepsLaw_16 : decode cX12_keepsLaw 16 = .ok (.bipush 16, 2) := by decide +kernel
theorem dX12_keepsLaw_18 : decode cX12_keepsLaw 18 = .ok (.iload_n 1, 1) := by decide +kernel
theorem dX12_keepsLaw_19 : decode cX12_keepsLaw 19 = .ok (.imul, 1) := by decide +kernel
theorem dX12_keepsLaw_20 : decode cX12_keepsLaw 20 = .ok (.istore_n 2, 1) := by decide +kernel
theorem dX12_keepsLaw_21 : decode cX12_keepsLaw 21 = .ok (.iload_n 2, 1) := by decide +kernel
theorem dX12_keepsLaw_22 : decode cX12_keepsLaw 22 = .ok (.bipush 16, 2) := by decide +kernel
theorem dX12_keepsLaw_24 : decode cX12_keepsLaw 24 = .ok (.iload_n 1, 1) := by decide +kernel
theorem dX12_keepsLaw_25 : decode cX12_keepsLaw 25 = .ok (.imul, 1) := by decide +kernel
theorem dX12_keepsLaw_26 : decode cX12_keepsLaw 26 = .ok (.bipush 16, 2) := by decide +kernel
theorem dX12_keepsLaw_28 : decode cX12_keepsLaw 28 = .ok (.iadd, 1) := by decide +kernel
theorem dX12_keepsLaw_29 : decode cX12_keepsLaw 29 = .ok (.if_icmp .ge 57, 3) := by decide +kernel
theorem dX12_keepsLaw_32 : decode cX12_keepsLaw 32 = .ok (.aload_n 0, 1) := by decide +kernel
theorem dX12_keepsLaw_33 : decode cX12_keepsLaw 33 = .ok (.getfield 52, 3) := by decide +kernel
theorem dX12_keepsLaw_36 : decode cX12_keepsLaw 36 = .ok (.iload_n 2, 1) := by decide +kernel
theorem dX12_keepsLaw_37 : decode cX12_keepsLaw 37 = .ok (.aload_n 0, 1) := by decide +kernel
theorem dX12_keepsLaw_38 : decode cX12_keepsLaw 38 = .ok (.aload_n 0, 1) := by decide +kernel
theorem dX12_keepsLaw_39 : decode cX12_keepsLaw 39 = .ok (.getfield 52, 3) := by decide +kernel
theorem dX12_keepsLaw_42 : decode cX12_keepsLaw 42 = .ok (.iload_n 2, 1) := by decide +kernel
theorem dX12_keepsLaw_43 : decode cX12_keepsLaw 43 = .ok (.iaload, 1) := by decide +kernel
theorem dX12_keepsLaw_44 : decode cX12_keepsLaw 44 = .ok (.invokevirtual 546, 3) := by decide +kernel
theorem dX12_keepsLaw_47 : decode cX12_keepsLaw 47 = .ok (.iastore, 1) := by decide +kernel
theorem dX12_keepsLaw_48 : decode cX12_keepsLaw 48 = .ok (.aload_n 0, 1) := by decide +kernel
theorem dX12_keepsLaw_49 : decode cX12_keepsLaw 49 = .ok (.getfield 55, 3) := by decide +kernel
theorem dX12_keepsLaw_52 : decode cX12_keepsLaw 52 = .ok (.iload_n 2, 1) := by decide +kernel
theorem dX12_keepsLaw_53 : decode cX12_keepsLaw 53 = .ok (.aload_n 0, 1) := by decide +kernel
theorem dX12_keepsLaw_54 : decode cX12_keepsLaw 54 = .ok (.aload_n 0, 1) := by decide +kernel
theorem dX12_keepsLaw_55 : decode cX12_keepsLaw 55 = .ok (.getfield 55, 3) := by decide +kernel
theorem dX12_keepsLaw_58 : decode cX12_keepsLaw 58 = .ok (.iload_n 2, 1) := by decide +kernel
theorem dX12_keepsLaw_59 : decode cX12_keepsLaw 59 = .ok (.iaload, 1) := by decide +kernel
theorem dX12_keepsLaw_60 : decode cX12_keepsLaw 60 = .ok (.invokevirtual 546, 3) := by decide +kernel
theorem dX12_keepsLaw_63 : decode cX12_keepsLaw 63 = .ok (.iastore, 1) := by decide +kernel
theorem dX12_keepsLaw_64 : decode cX12_keepsLaw 64 = .ok (.aload_n 0, 1) := by decide +kernel
theorem dX12_keepsLaw_65 : decode cX12_keepsLaw 65 = .ok (.getfield 58, 3) := by decide +kernel
theorem dX12_keepsLaw_68 : decode cX12_keepsLaw 68 = .ok (.iload_n 2, 1) := by decide +kernel
theorem dX12_keepsLaw_69 : decode cX12_keepsLaw 69 = .ok (.aload_n 0, 1) := by decide +kernel
theorem dX12_keepsLaw_70 : decode cX12_keepsLaw 70 = .ok (.aload_n 0, 1) := by decide +kernel
theorem dX12_keepsLaw_71 : decode cX12_keepsLaw 71 = .ok (.getfield 58, 3) := by decide +kernel
theorem dX12_keepsLaw_74 : decode cX12_keepsLaw 74 = .ok (.iload_n 2, 1) := by decide +kernel
theorem dX12_keepsLaw_75 : decode cX12_keepsLaw 75 = .ok (.iaload, 1) := by decide +kernel
theorem dX12_keepsLaw_76 : decode cX12_keepsLaw 76 = .ok (.invokevirtual 546, 3) := by decide +kernel
theorem dX12_keepsLaw_79 : decode cX12_keepsLaw 79 = .ok (.iastore, 1) := by decide +kernel
theorem dX12_keepsLaw_80 : decode cX12_keepsLaw 80 = .ok (.iinc 2 1, 3) := by decide +kernel
theorem dX12_keepsLaw_83 : decode cX12_keepsLaw 83 = .ok (.goto (-62), 3) := by decide +kernel
theorem dX12_keepsLaw_86 : decode cX12_keepsLaw 86 = .ok (.sipush 400, 3) := by decide +kernel
theorem dX12_keepsLaw_89 : decode cX12_keepsLaw 89 = .ok (.iload_n 1, 1) := by decide +kernel
theorem dX12_keepsLaw_90 : decode cX12_keepsLaw 90 = .ok (.imul, 1) := by decide +kernel
theorem dX12_keepsLaw_91 : decode cX12_keepsLaw 91 = .ok (.istore_n 2, 1) := by decide +kernel
theorem dX12_keepsLaw_92 : decode cX12_keepsLaw 92 = .ok (.iload_n 2, 1) := by decide +kernel
theorem dX12_keepsLaw_93 : decode cX12_keepsLaw 93 = .ok (.sipush 400, 3) := by decide +kernel
theorem dX12_keepsLaw_96 : decode cX12_keepsLaw 96 = .ok (.iload_n 1, 1) := by decide +kernel
theorem dX12_keepsLaw_97 : decode cX12_keepsLaw 97 = .ok (.imul, 1) := by decide +kernel
theorem dX12_keepsLaw_98 : decode cX12_keepsLaw 98 = .ok (.sipush 400, 3) := by decide +kernel
theorem dX12_keepsLaw_101 : decode cX12_keepsLaw 101 = .ok (.iadd, 1) := by decide +kernel
theorem dX12_keepsLaw_102 : decode cX12_keepsLaw 102 = .ok (.if_icmp .ge 41, 3) := by decide +kernel
theorem dX12_keepsLaw_105 : decode cX12_keepsLaw 105 = .ok (.aload_n 0, 1) := by decide +kernel
theorem dX12_keepsLaw_106 : decode cX12_keepsLaw 106 = .ok (.getfield 61, 3) := by decide +kernel
theorem dX12_keepsLaw_109 : decode cX12_keepsLaw 109 = .ok (.iload_n 2, 1) := by decide +kernel
theorem dX12_keepsLaw_110 : decode cX12_keepsLaw 110 = .ok (.aload_n 0, 1) := by decide +kernel
theorem dX12_keepsLaw_111 : decode cX12_keepsLaw 111 = .ok (.aload_n 0, 1) := by decide +kernel
theorem dX12_keepsLaw_112 : decode cX12_keepsLaw 112 = .ok (.getfield 61, 3) := by decide +kernel
theorem dX12_keepsLaw_115 : decode cX12_keepsLaw 115 = .ok (.iload_n 2, 1) := by decide +kernel
theorem dX12_keepsLaw_116 : decode cX12_keepsLaw 116 = .ok (.iaload, 1) := by decide +kernel
theorem dX12_keepsLaw_117 : decode cX12_keepsLaw 117 = .ok (.invokevirtual 546, 3) := by decide +kernel
theorem dX12_keepsLaw_120 : decode cX12_keepsLaw 120 = .ok (.iastore, 1) := by decide +kernel
theorem dX12_keepsLaw_121 : decode cX12_keepsLaw 121 = .ok (.aload_n 0, 1) := by decide +kernel
theorem dX12_keepsLaw_122 : decode cX12_keepsLaw 122 = .ok (.getfield 64, 3) := by decide +kernel
theorem dX12_keepsLaw_125 : decode cX12_keepsLaw 125 = .ok (.iload_n 2, 1) := by decide +kernel
theorem dX12_keepsLaw_126 : decode cX12_keepsLaw 126 = .ok (.aload_n 0, 1) := by decide +kernel
theorem dX12_keepsLaw_127 : decode cX12_keepsLaw 127 = .ok (.aload_n 0, 1) := by decide +kernel
theorem dX12_keepsLaw_128 : decode cX12_keepsLaw 128 = .ok (.getfield 64, 3) := by decide +kernel
theorem dX12_keepsLaw_131 : decode cX12_keepsLaw 131 = .ok (.iload_n 2, 1) := by decide +kernel
theorem dX12_keepsLaw_132 : decode cX12_keepsLaw 132 = .ok (.iaload, 1) := by decide +kernel
theorem dX12_keepsLaw_133 : decode cX12_keepsLaw 133 = .ok (.invokevirtual 546, 3) := by decide +kernel
theorem dX12_keepsLaw_136 : decode cX12_keepsLaw 136 = .ok (.iastore, 1) := by decide +kernel
theorem dX12_keepsLaw_137 : decode cX12_keepsLaw 137 = .ok (.iinc 2 1, 3) := by decide +kernel
theorem dX12_keepsLaw_140 : decode cX12_keepsLaw 140 = .ok (.goto (-48), 3) := by decide +kernel
theorem dX12_keepsLaw_143 : decode cX12_keepsLaw 143 = .ok (.return_, 1) := by decide +kernel
theorem dX12_keepsTexts_0 : decode cX12_keepsTexts 0 = .ok (.aload_n 0, 1) := by decide +kernel
theorem dX12_keepsTexts_1 : decode cX12_keepsTexts 1 = .ok (.aload_n 0, 1) := by decide +kernel
theorem dX12_keepsTexts_2 : decode cX12_keepsTexts 2 = .ok (.aload_n 0, 1) := by decide +kernel
theorem dX12_keepsTexts_3 : decode cX12_keepsTexts 3 = .ok (.getfield 321, 3) := by decide +kernel
theorem dX12_keepsTexts_6 : decode cX12_keepsTexts 6 = .ok (.invokevirtual 546, 3) := by decide +kernel
theorem dX12_keepsTexts_9 : decode cX12_keepsTexts 9 = .ok (.putfield 321, 3) := by decide +kernel
theorem dX12_keepsTexts_12 : decode cX12_keepsTexts 12 = .ok (.iconst 0, 1) := by decide +kernel
theorem dX12_keepsTexts_13 : decode cX12_keepsTexts 13 = .ok (.istore_n 1, 1) := by decide +kernel
theorem dX12_keepsTexts_14 : decode cX12_keepsTexts 14 = .ok (.iload_n 1, 1) := by decide +kernel
theorem dX12_keepsTexts_15 : decode cX12_keepsTexts 15 = .ok (.sipush 160, 3) := by decide +kernel
theorem dX12_keepsTexts_18 : decode cX12_keepsTexts 18 = .ok (.if_icmp .ge 25, 3) := by decide +kernel
theorem dX12_keepsTexts_21 : decode cX12_keepsTexts 21 = .ok (.aload_n 0, 1) := by decide +kernel
theorem dX12_keepsTexts_22 : decode cX12_keepsTexts 22 = .ok (.getfield 74, 3) := by decide +kernel
theorem dX12_keepsTexts_25 : decode cX12_keepsTexts 25 = .ok (.iload_n 1, 1) := by decide +kernel
theorem dX12_keepsTexts_26 : decode cX12_keepsTexts 26 = .ok (.aload_n 0, 1) := by decide +kernel
theorem dX12_keepsTexts_27 : decode cX12_keepsTexts 27 = .ok (.aload_n 0, 1) := by decide +kernel
theorem dX12_keepsTexts_28 : decode cX12_keepsTexts 28 = .ok (.getfield 74, 3) := by decide +kernel
theorem dX12_keepsTexts_31 : decode cX12_keepsTexts 31 = .ok (.iload_n 1, 1) := by decide +kernel
theorem dX12_keepsTexts_32 : decode cX12_keepsTexts 32 = .ok (.iaload, 1) := by decide +kernel
theorem dX12_keepsTexts_33 : decode cX12_keepsTexts 33 = .ok (.invokevirtual 546, 3) := by decide +kernel
theorem dX12_keepsTexts_36 : decode cX12_keepsTexts 36 = .ok (.iastore, 1) := by decide +kernel
theorem dX12_keepsTexts_37 : decode cX12_keepsTexts 37 = .ok (.iinc 1 1, 3) := by decide +kernel
theorem dX12_keepsTexts_40 : decode cX12_keepsTexts 40 = .ok (.goto (-26), 3) := by decide +kernel
theorem dX12_keepsTexts_43 : decode cX12_keepsTexts 43 = .ok (.aload_n 0, 1) := by decide +kernel
theorem dX12_keepsTexts_44 : decode cX12_keepsTexts 44 = .ok (.aload_n 0, 1) := by decide +kernel
theorem dX12_keepsTexts_45 : decode cX12_keepsTexts 45 = .ok (.aload_n 0, 1) := by decide +kernel
theorem dX12_keepsTexts_46 : decode cX12_keepsTexts 46 = .ok (.getfield 324, 3) := by decide +kernel
theorem dX12_keepsTexts_49 : decode cX12_keepsTexts 49 = .ok (.invokevirtual 546, 3) := by decide +kernel
theorem dX12_keepsTexts_52 : decode cX12_keepsTexts 52 = .ok (.putfield 324, 3) := by decide +kernel
theorem dX12_keepsTexts_55 : decode cX12_keepsTexts 55 = .ok (.iconst 0, 1) := by decide +kernel
theorem dX12_keepsTexts_56 : decode cX12_keepsTexts 56 = .ok (.istore_n 1, 1) := by decide +kernel
theorem dX12_keepsTexts_57 : decode cX12_keepsTexts 57 = .ok (.iload_n 1, 1) := by decide +kernel
theorem dX12_keepsTexts_58 : decode cX12_keepsTexts 58 = .ok (.bipush 50, 2) := by decide +kernel
theorem dX12_keepsTexts_60 : decode cX12_keepsTexts 60 = .ok (.if_icmp .ge 25, 3) := by decide +kernel
theorem dX12_keepsTexts_63 : decode cX12_keepsTexts 63 = .ok (.aload_n 0, 1) := by decide +kernel
theorem dX12_keepsTexts_64 : decode cX12_keepsTexts 64 = .ok (.getfield 77, 3) := by decide +kernel
theorem dX12_keepsTexts_67 : decode cX12_keepsTexts 67 = .ok (.iload_n 1, 1) := by decide +kernel
theorem dX12_keepsTexts_68 : decode cX12_keepsTexts 68 = .ok (.aload_n 0, 1) := by decide +kernel
theorem dX12_keepsTexts_69 : decode cX12_keepsTexts 69 = .ok (.aload_n 0, 1) := by decide +kernel
theorem dX12_keepsTexts_70 : decode cX12_keepsTexts 70 = .ok (.getfield 77, 3) := by decide +kernel
theorem dX12_keepsTexts_73 : decode cX12_keepsTexts 73 = .ok (.iload_n 1, 1) := by decide +kernel
theorem dX12_keepsTexts_74 : decode cX12_keepsTexts 74 = .ok (.iaload, 1) := by decide +kernel
theorem dX12_keepsTexts_75 : decode cX12_keepsTexts 75 = .ok (.invokevirtual 546, 3) := by decide +kernel
theorem dX12_keepsTexts_78 : decode cX12_keepsTexts 78 = .ok (.iastore, 1) := by decide +kernel
theorem dX12_keepsTexts_79 : decode cX12_keepsTexts 79 = .ok (.iinc 1 1, 3) := by decide +kernel
theorem dX12_keepsTexts_82 : decode cX12_keepsTexts 82 = .ok (.goto (-25), 3) := by decide +kernel
theorem dX12_keepsTexts_85 : decode cX12_keepsTexts 85 = .ok (.aload_n 0, 1) := by decide +kernel
theorem dX12_keepsTexts_86 : decode cX12_keepsTexts 86 = .ok (.aload_n 0, 1) := by decide +kernel
theorem dX12_keepsTexts_87 : decode cX12_keepsTexts 87 = .ok (.aload_n 0, 1) := by decide +kernel
theorem dX12_keepsTexts_88 : decode cX12_keepsTexts 88 = .ok (.getfield 327, 3) := by decide +kernel
theorem dX12_keepsTexts_91 : decode cX12_keepsTexts 91 = .ok (.invokevirtual 546, 3) := by decide +kernel
theorem dX12_keepsTexts_94 : decode cX12_keepsTexts 94 = .ok (.putfield 327, 3) := by decide +kernel
theorem dX12_keepsTexts_97 : decode cX12_keepsTexts 97 = .ok (.iconst 0, 1) := by decide +kernel
theorem dX12_keepsTexts_98 : decode cX12_keepsTexts 98 = .ok (.istore_n 1, 1) := by decide +kernel
theorem dX12_keepsTexts_99 : decode cX12_keepsTexts 99 = .ok (.iload_n 1, 1) := by decide +kernel
theorem dX12_keepsTexts_100 : decode cX12_keepsTexts 100 = .ok (.sipush 200, 3) := by decide +kernel
theorem dX12_keepsTexts_103 : decode cX12_keepsTexts 103 = .ok (.if_icmp .ge 25, 3) := by decide +kernel
theorem dX12_keepsTexts_106 : decode cX12_keepsTexts 106 = .ok (.aload_n 0, 1) := by decide +kernel
theorem dX12_keepsTexts_107 : decode cX12_keepsTexts 107 = .ok (.getfield 86, 3) := by decide +kernel
theorem dX12_keepsTexts_110 : decode cX12_keepsTexts 110 = .ok (.iload_n 1, 1) := by decide +kernel
theorem dX12_keepsTexts_111 : decode cX12_keepsTexts 111 = .ok (.aload_n 0, 1) := by decide +kernel
theorem dX12_keepsTexts_112 : decode cX12_keepsTexts 112 = .ok (.aload_n 0, 1) := by decide +kernel
theorem dX12_keepsTexts_113 : decode cX12_keepsTexts 113 = .ok (.getfield 86, 3) := by decide +kernel
theorem dX12_keepsTexts_116 : decode cX12_keepsTexts 116 = .ok (.iload_n 1, 1) := by decide +kernel
theorem dX12_keepsTexts_117 : decode cX12_keepsTexts 117 = .ok (.iaload, 1) := by decide +kernel
theorem dX12_keepsTexts_118 : decode cX12_keepsTexts 118 = .ok (.invokevirtual 546, 3) := by decide +kernel
theorem dX12_keepsTexts_121 : decode cX12_keepsTexts 121 = .ok (.iastore, 1) := by decide +kernel
theorem dX12_keepsTexts_122 : decode cX12_keepsTexts 122 = .ok (.iinc 1 1, 3) := by decide +kernel
theorem dX12_keepsTexts_125 : decode cX12_keepsTexts 125 = .ok (.goto (-26), 3) := by decide +kernel
theorem dX12_keepsTexts_128 : decode cX12_keepsTexts 128 = .ok (.return_, 1) := by decide +kernel
theorem dX12_keepsVillage_0 : decode cX12_keepsVillage 0 = .ok (.aload_n 0, 1) := by decide +kernel
theorem dX12_keepsVillage_1 : decode cX12_keepsVillage 1 = .ok (.aload_n 0, 1) := by decide +kernel
theorem dX12_keepsVillage_2 : decode cX12_keepsVillage 2 = .ok (.aload_n 0, 1) := by decide +kernel
theorem dX12_keepsVillage_3 : decode cX12_keepsVillage 3 = .ok (.getfield 148, 3) := by decide +kernel
theorem dX12_keepsVillage_6 : decode cX12_keepsVillage 6 = .ok (.invokevirtual 546, 3) := by decide +kernel
theorem dX12_keepsVillage_9 : decode cX12_keepsVillage 9 = .ok (.putfield 148, 3) := by decide +kernel
theorem dX12_keepsVillage_12 : decode cX12_keepsVillage 12 = .ok (.iconst 0, 1) := by decide +kernel
theorem dX12_keepsVillage_13 : decode cX12_keepsVillage 13 = .ok (.istore_n 1, 1) := by decide +kernel
theorem dX12_keepsVillage_14 : decode cX12_keepsVillage 14 = .ok (.iload_n 1, 1) := by decide +kernel
theorem dX12_keepsVillage_15 : decode cX12_keepsVillage 15 = .ok (.bipush 10, 2) := by decide +kernel
theorem dX12_keepsVillage_17 : decode cX12_keepsVillage 17 = .ok (.if_icmp .ge 89, 3) := by decide +kernel
theorem dX12_keepsVillage_20 : decode cX12_keepsVillage 20 = .ok (.aload_n 0, 1) := by decide +kernel
theorem dX12_keepsVillage_21 : decode cX12_keepsVillage 21 = .ok (.getfield 19, 3) := by decide +kernel
theorem dX12_keepsVillage_24 : decode cX12_keepsVillage 24 = .ok (.iload_n 1, 1) := by decide +kernel
theorem dX12_keepsVillage_25 : decode cX12_keepsVillage 25 = .ok (.aload_n 0, 1) := by decide +kernel
theorem dX12_keepsVillage_26 : decode cX12_keepsVillage 26 = .ok (.aload_n 0, 1) := by decide +kernel
theorem dX12_keepsVillage_27 : decode cX12_keepsVillage 27 = .ok (.getfield 19, 3) := by decide +kernel
theorem dX12_keepsVillage_30 : decode cX12_keepsVillage 30 = .ok (.iload_n 1, 1) := by decide +kernel
theorem dX12_keepsVillage_31 : decode cX12_keepsVillage 31 = .ok (.iaload, 1) := by decide +kernel
theorem dX12_keepsVillage_32 : decode cX12_keepsVillage 32 = .ok (.invokevirtual 546, 3) := by decide +kernel
theorem dX12_keepsVillage_35 : decode cX12_keepsVillage 35 = .ok (.iastore, 1) := by decide +kernel
theorem dX12_keepsVillage_36 : decode cX12_keepsVillage 36 = .ok (.aload_n 0, 1) := by decide +kernel
theorem dX12_keepsVillage_37 : decode cX12_keepsVillage 37 = .ok (.getfield 22, 3) := by decide +kernel
theorem dX12_keepsVillage_40 : decode cX12_keepsVillage 40 = .ok (.iload_n 1, 1) := by decide +kernel
theorem dX12_keepsVillage_41 : decode cX12_keepsVillage 41 = .ok (.aload_n 0, 1) := by decide +kernel
theorem dX12_keepsVillage_42 : decode cX12_keepsVillage 42 = .ok (.aload_n 0, 1) := by decide +kernel
theorem dX12_keepsVillage_43 : decode cX12_keepsVillage 43 = .ok (.getfield 22, 3) := by decide +kernel
theorem dX12_keepsVillage_46 : decode cX12_keepsVillage 46 = .ok (.iload_n 1, 1) := by decide +kernel
theorem dX12_keepsVillage_47 : decode cX12_keepsVillage 47 = .ok (.iaload, 1) := by decide +kernel
theorem dX12_keepsVillage_48 : decode cX12_keepsVillage 48 = .ok (.invokevirtual 546, 3) := by decide +kernel
theorem dX12_keepsVillage_51 : decode cX12_keepsVillage 51 = .ok (.iastore, 1) := by decide +kernel
theorem dX12_keepsVillage_52 : decode cX12_keepsVillage 52 = .ok (.aload_n 0, 1) := by decide +kernel
theorem dX12_keepsVillage_53 : decode cX12_keepsVillage 53 = .ok (.getfield 25, 3) := by decide +kernel
theorem dX12_keepsVillage_56 : decode cX12_keepsVillage 56 = .ok (.iload_n 1, 1) := by decide +kernel
theorem dX12_keepsVillage_57 : decode cX12_keepsVillage 57 = .ok (.aload_n 0, 1) := by decide +kernel
theorem dX12_keepsVillage_58 : decode cX12_keepsVillage 58 = .ok (.aload_n 0, 1) := by decide +kernel
theorem dX12_keepsVillage_59 : decode cX12_keepsVillage 59 = .ok (.getfield 25, 3) := by decide +kernel
theorem dX12_keepsVillage_62 : decode cX12_keepsVillage 62 = .ok (.iload_n 1, 1) := by decide +kernel
theorem dX12_keepsVillage_63 : decode cX12_keepsVillage 63 = .ok (.iaload, 1) := by decide +kernel
theorem dX12_keepsVillage_64 : decode cX12_keepsVillage 64 = .ok (.invokevirtual 546, 3) := by decide +kernel
theorem dX12_keepsVillage_67 : decode cX12_keepsVillage 67 = .ok (.iastore, 1) := by decide +kernel
theorem dX12_keepsVillage_68 : decode cX12_keepsVillage 68 = .ok (.aload_n 0, 1) := by decide +kernel
theorem dX12_keepsVillage_69 : decode cX12_keepsVillage 69 = .ok (.getfield 28, 3) := by decide +kernel
theorem dX12_keepsVillage_72 : decode cX12_keepsVillage 72 = .ok (.iload_n 1, 1) := by decide +kernel
theorem dX12_keepsVillage_73 : decode cX12_keepsVillage 73 = .ok (.aload_n 0, 1) := by decide +kernel
theorem dX12_keepsVillage_74 : decode cX12_keepsVillage 74 = .ok (.aload_n 0, 1) := by decide +kernel
theorem dX12_keepsVillage_75 : decode cX12_keepsVillage 75 = .ok (.getfield 28, 3) := by decide +kernel
theorem dX12_keepsVillage_78 : decode cX12_keepsVillage 78 = .ok (.iload_n 1, 1) := by decide +kernel
theorem dX12_keepsVillage_79 : decode cX12_keepsVillage 79 = .ok (.iaload, 1) := by decide +kernel
theorem dX12_keepsVillage_80 : decode cX12_keepsVillage 80 = .ok (.invokevirtual 546, 3) := by decide +kernel
theorem dX12_keepsVillage_83 : decode cX12_keepsVillage 83 = .ok (.iastore, 1) := by decide +kernel
theorem dX12_keepsVillage_84 : decode cX12_keepsVillage 84 = .ok (.aload_n 0, 1) := by decide +kernel
theorem dX12_keepsVillage_85 : decode cX12_keepsVillage 85 = .ok (.getfield 31, 3) := by decide +kernel
theorem dX12_keepsVillage_88 : decode cX12_keepsVillage 88 = .ok (.iload_n 1, 1) := by decide +kernel
theorem dX12_keepsVillage_89 : decode cX12_keepsVillage 89 = .ok (.aload_n 0, 1) := by decide +kernel
theorem dX12_keepsVillage_90 : decode cX12_keepsVillage 90 = .ok (.aload_n 0, 1) := by decide +kernel
theorem dX12_keepsVillage_91 : decode cX12_keepsVillage 91 = .ok (.getfield 31, 3) := by decide +kernel
theorem dX12_keepsVillage_94 : decode cX12_keepsVillage 94 = .ok (.iload_n 1, 1) := by decide +kernel
theorem dX12_keepsVillage_95 : decode cX12_keepsVillage 95 = .ok (.iaload, 1) := by decide +kernel
theorem dX12_keepsVillage_96 : decode cX12_keepsVillage 96 = .ok (.invokevirtual 546, 3) := by decide +kernel
theorem dX12_keepsVillage_99 : decode cX12_keepsVillage 99 = .ok (.iastore, 1) := by decide +kernel
theorem dX12_keepsVillage_100 : decode cX12_keepsVillage 100 = .ok (.iinc 1 1, 3) := by decide +kernel
theorem dX12_keepsVillage_103 : decode cX12_keepsVillage 103 = .ok (.goto (-89), 3) := by decide +kernel
theorem dX12_keepsVillage_106 : decode cX12_keepsVillage 106 = .ok (.aload_n 0, 1) := by decide +kernel
theorem dX12_keepsVillage_107 : decode cX12_keepsVillage 107 = .ok (.aload_n 0, 1) := by decide +kernel
theorem dX12_keepsVillage_108 : decode cX12_keepsVillage 108 = .ok (.aload_n 0, 1) := by decide +kernel
theorem dX12_keepsVillage_109 : decode cX12_keepsVillage 109 = .ok (.getfield 166, 3) := by decide +kernel
theorem dX12_keepsVillage_112 : decode cX12_keepsVillage 112 = .ok (.invokevirtual 546, 3) := by decide +kernel
theorem dX12_keepsVillage_115 : decode cX12_keepsVillage 115 = .ok (.putfield 166, 3) := by decide +kernel
theorem dX12_keepsVillage_118 : decode cX12_keepsVillage 118 = .ok (.aload_n 0, 1) := by decide +kernel
theorem dX12_keepsVillage_119 : decode cX12_keepsVillage 119 = .ok (.aload_n 0, 1) := by decide +kernel
theorem dX12_keepsVillage_120 : decode cX12_keepsVillage 120 = .ok (.aload_n 0, 1) := by decide +kernel
theorem dX12_keepsVillage_121 : decode cX12_keepsVillage 121 = .ok (.getfield 169, 3) := by decide +kernel
theorem dX12_keepsVillage_124 : decode cX12_keepsVillage 124 = .ok (.invokevirtual 546, 3) := by decide +kernel
theorem dX12_keepsVillage_127 : decode cX12_keepsVillage 127 = .ok (.putfield 169, 3) := by decide +kernel
theorem dX12_keepsVillage_130 : decode cX12_keepsVillage 130 = .ok (.aload_n 0, 1) := by decide +kernel
theorem dX12_keepsVillage_131 : decode cX12_keepsVillage 131 = .ok (.aload_n 0, 1) := by decide +kernel
theorem dX12_keepsVillage_132 : decode cX12_keepsVillage 132 = .ok (.aload_n 0, 1) := by decide +kernel
theorem dX12_keepsVillage_133 : decode cX12_keepsVillage 133 = .ok (.getfield 142, 3) := by decide +kernel
theorem dX12_keepsVillage_136 : decode cX12_keepsVillage 136 = .ok (.invokevirtual 546, 3) := by decide +kernel
theorem dX12_keepsVillage_139 : decode cX12_keepsVillage 139 = .ok (.putfield 142, 3) := by decide +kernel
theorem dX12_keepsVillage_142 : decode cX12_keepsVillage 142 = .ok (.aload_n 0, 1) := by decide +kernel
theorem dX12_keepsVillage_143 : decode cX12_keepsVillage 143 = .ok (.aload_n 0, 1) := by decide +kernel
theorem dX12_keepsVillage_144 : decode cX12_keepsVillage 144 = .ok (.aload_n 0, 1) := by decide +kernel
theorem dX12_keepsVillage_145 : decode cX12_keepsVillage 145 = .ok (.getfield 145, 3) := by decide +kernel
theorem dX12_keepsVillage_148 : decode cX12_keepsVillage 148 = .ok (.invokevirtual 546, 3) := by decide +kernel
theorem dX12_keepsVillage_151 : decode cX12_keepsVillage 151 = .ok (.putfield 145, 3) := by decide +kernel
theorem dX12_keepsVillage_154 : decode cX12_keepsVillage 154 = .ok (.aload_n 0, 1) := by decide +kernel
theorem dX12_keepsVillage_155 : decode cX12_keepsVillage 155 = .ok (.aload_n 0, 1) := by decide +kernel
theorem dX12_keepsVillage_156 : decode cX12_keepsVillage 156 = .ok (.aload_n 0, 1) := by decide +kernel
theorem dX12_keepsVillage_157 : decode cX12_keepsVillage 157 = .ok (.getfield 517, 3) := by decide +kernel
theorem dX12_keepsVillage_160 : decode cX12_keepsVillage 160 = .ok (.invokevirtual 546, 3) := by decide +kernel
theorem dX12_keepsVillage_163 : decode cX12_keepsVillage 163 = .ok (.putfield 517, 3) := by decide +kernel
theorem dX12_keepsVillage_166 : decode cX12_keepsVillage 166 = .ok (.iconst 0, 1) := by decide +kernel
theorem dX12_keepsVillage_167 : decode cX12_keepsVillage 167 = .ok (.istore_n 1, 1) := by decide +kernel
theorem dX12_keepsVillage_168 : decode cX12_keepsVillage 168 = .ok (.iload_n 1, 1) := by decide +kernel
theorem dX12_keepsVillage_169 : decode cX12_keepsVillage 169 = .ok (.bipush 8, 2) := by decide +kernel
theorem dX12_keepsVillage_171 : decode cX12_keepsVillage 171 = .ok (.if_icmp .ge 41, 3) := by decide +kernel
theorem dX12_keepsVillage_174 : decode cX12_keepsVillage 174 = .ok (.aload_n 0, 1) := by decide +kernel
theorem dX12_keepsVillage_175 : decode cX12_keepsVillage 175 = .ok (.getfield 37, 3) := by decide +kernel
theorem dX12_keepsVillage_178 : decode cX12_keepsVillage 178 = .ok (.iload_n 1, 1) := by decide +kernel
theorem dX12_keepsVillage_179 : decode cX12_keepsVillage 179 = .ok (.aload_n 0, 1) := by decide +kernel
theorem dX12_keepsVillage_180 : decode cX12_keepsVillage 180 = .ok (.aload_n 0, 1) := by decide +kernel
theorem dX12_keepsVillage_181 : decode cX12_keepsVillage 181 = .ok (.getfield 37, 3) := by decide +kernel
theorem dX12_keepsVillage_184 : decode cX12_keepsVillage 184 = .ok (.iload_n 1, 1) := by decide +kernel
theorem dX12_keepsVillage_185 : decode cX12_keepsVillage 185 = .ok (.iaload, 1) := by decide +kernel
theorem dX12_keepsVillage_186 : decode cX12_keepsVillage 186 = .ok (.invokevirtual 546, 3) := by decide +kernel
theorem dX12_keepsVillage_189 : decode cX12_keepsVillage 189 = .ok (.iastore, 1) := by decide +kernel
theorem dX12_keepsVillage_190 : decode cX12_keepsVillage 190 = .ok (.aload_n 0, 1) := by decide +kernel
theorem dX12_keepsVillage_191 : decode cX12_keepsVillage 191 = .ok (.getfield 40, 3) := by decide +kernel
theorem dX12_keepsVillage_194 : decode cX12_keepsVillage 194 = .ok (.iload_n 1, 1) := by decide +kernel
theorem dX12_keepsVillage_195 : decode cX12_keepsVillage 195 = .ok (.aload_n 0, 1) := by decide +kernel
theorem dX12_keepsVillage_196 : decode cX12_keepsVillage 196 = .ok (.aload_n 0, 1) := by decide +kernel
theorem dX12_keepsVillage_197 : decode cX12_keepsVillage 197 = .ok (.getfield 40, 3) := by decide +kernel
theorem dX12_keepsVillage_200 : decode cX12_keepsVillage 200 = .ok (.iload_n 1, 1) := by decide +kernel
theorem dX12_keepsVillage_201 : decode cX12_keepsVillage 201 = .ok (.iaload, 1) := by decide +kernel
theorem dX12_keepsVillage_202 : decode cX12_keepsVillage 202 = .ok (.invokevirtual 546, 3) := by decide +kernel
theorem dX12_keepsVillage_205 : decode cX12_keepsVillage 205 = .ok (.iastore, 1) := by decide +kernel
theorem dX12_keepsVillage_206 : decode cX12_keepsVillage 206 = .ok (.iinc 1 1, 3) := by decide +kernel
theorem dX12_keepsVillage_209 : decode cX12_keepsVillage 209 = .ok (.goto (-41), 3) := by decide +kernel
theorem dX12_keepsVillage_212 : decode cX12_keepsVillage 212 = .ok (.return_, 1) := by decide +kernel
theorem dX12_kept_0 : decode cX12_kept 0 = .ok (.aload_n 0, 1) := by decide +kernel
theorem dX12_kept_1 : decode cX12_kept 1 = .ok (.aload_n 0, 1) := by decide +kernel
theorem dX12_kept_2 : decode cX12_kept 2 = .ok (.getfield 540, 3) := by decide +kernel
theorem dX12_kept_5 : decode cX12_kept 5 = .ok (.iconst 1, 1) := by decide +kernel
theorem dX12_kept_6 : decode cX12_kept 6 = .ok (.iadd, 1) := by decide +kernel
theorem dX12_kept_7 : decode cX12_kept 7 = .ok (.putfield 540, 3) := by decide +kernel
theorem dX12_kept_10 : decode cX12_kept 10 = .ok (.aload_n 0, 1) := by decide +kernel
theorem dX12_kept_11 : decode cX12_kept 11 = .ok (.getfield 543, 3) := by decide +kernel
theorem dX12_kept_14 : decode cX12_kept 14 = .ok (.ifCond .ne 15, 3) := by decide +kernel
theorem dX12_kept_17 : decode cX12_kept 17 = .ok (.aload_n 0, 1) := by decide +kernel
theorem dX12_kept_18 : decode cX12_kept 18 = .ok (.getfield 127, 3) := by decide +kernel
theorem dX12_kept_21 : decode cX12_kept 21 = .ok (.aload_n 0, 1) := by decide +kernel
theorem dX12_kept_22 : decode cX12_kept 22 = .ok (.getfield 540, 3) := by decide +kernel
theorem dX12_kept_25 : decode cX12_kept 25 = .ok (.iconst 1, 1) := by decide +kernel
theorem dX12_kept_26 : decode cX12_kept 26 = .ok (.isub, 1) := by decide +kernel
theorem dX12_kept_27 : decode cX12_kept 27 = .ok (.iaload, 1) := by decide +kernel
theorem dX12_kept_28 : decode cX12_kept 28 = .ok (.ireturn, 1) := by decide +kernel
theorem dX12_kept_29 : decode cX12_kept 29 = .ok (.aload_n 0, 1) := by decide +kernel
theorem dX12_kept_30 : decode cX12_kept 30 = .ok (.getfield 127, 3) := by decide +kernel
theorem dX12_kept_33 : decode cX12_kept 33 = .ok (.aload_n 0, 1) := by decide +kernel
theorem dX12_kept_34 : decode cX12_kept 34 = .ok (.getfield 540, 3) := by decide +kernel
theorem dX12_kept_37 : decode cX12_kept 37 = .ok (.iconst 1, 1) := by decide +kernel
theorem dX12_kept_38 : decode cX12_kept 38 = .ok (.isub, 1) := by decide +kernel
theorem dX12_kept_39 : decode cX12_kept 39 = .ok (.iload_n 1, 1) := by decide +kernel
theorem dX12_kept_40 : decode cX12_kept 40 = .ok (.iastore, 1) := by decide +kernel
theorem dX12_kept_41 : decode cX12_kept 41 = .ok (.iload_n 1, 1) := by decide +kernel
theorem dX12_kept_42 : decode cX12_kept 42 = .ok (.ireturn, 1) := by decide +kernel
theorem q_146 : Cond.selects RX12 yX12_kept yX12_kept ∈ GW := inG 146 (by decide +kernel) (by decide +kernel)
theorem q_1465 : Cond.fieldLink RX12 543 "LampRoundModel" "isTaking" "Z" ∈ GW := inG 1465 (by decide +kernel) (by decide +kernel)
theorem q_1466 : Cond.fieldLink RX12 549 "LampRoundModel" "hasImage" "Z" ∈ GW := inG 1466 (by decide +kernel) (by decide +kernel)
theorem q_1467 : Cond.fieldLink RX12 540 "LampRoundModel" "keptAt" "I" ∈ GW := inG 1467 (by decide +kernel) (by decide +kernel)
theorem q_1468 : Cond.fieldLink RX12 127 "LampRoundModel" "images" "[I" ∈ GW := inG 1468 (by decide +kernel) (by decide +kernel)
theorem q_147 : Cond.selects RX12 yX12_keepsVillage yX12_keepsVillage ∈ GW := inG 147 (by decide +kernel) (by decide +kernel)
theorem q_148 : Cond.selects RX12 yX12_keepsTexts yX12_keepsTexts ∈ GW := inG 148 (by decide +kernel) (by decide +kernel)
theorem q_149 : Cond.selects RX12 yX12_keepsLaw yX12_keepsLaw ∈ GW := inG 149 (by decide +kernel) (by decide +kernel)
theorem q_2125 : Cond.methodLink RX12 546 yX12_kept ∈ GW := inG 2125 (by decide +kernel) (by decide +kernel)
theorem q_2127 : Cond.instanceMethod yX12_kept ∈ GW := inG 2127 (by decide +kernel) (by decide +kernel)
theorem q_2128 : Cond.code yX12_kept cX12_kept 2 (some .int) ∈ GW := inG 2128 (by decide +kernel) (by decide +kernel)
theorem q_2129 : Cond.methodLink RX12 552 yX12_keepsVillage ∈ GW := inG 2129 (by decide +kernel) (by decide +kernel)
theorem q_2131 : Cond.instanceMethod yX12_keepsVillage ∈ GW := inG 2131 (by decide +kernel) (by decide +kernel)
theorem q_2132 : Cond.code yX12_keepsVillage cX12_keepsVillage 2 none ∈ GW := inG 2132 (by decide +kernel) (by decide +kernel)
theorem q_2133 : Cond.methodLink RX12 555 yX12_keepsTexts ∈ GW := inG 2133 (by decide +kernel) (by decide +kernel)
theorem q_2135 : Cond.instanceMethod yX12_keepsTexts ∈ GW := inG 2135 (by decide +kernel) (by decide +kernel)
theorem q_2136 : Cond.code yX12_keepsTexts cX12_keepsTexts 2 none ∈ GW := inG 2136 (by decide +kernel) (by decide +kernel)
theorem q_2137 : Cond.methodLink RX12 558 yX12_keepsLaw ∈ GW := inG 2137 (by decide +kernel) (by decide +kernel)
theorem q_2139 : Cond.instanceMethod yX12_keepsLaw ∈ GW := inG 2139 (by decide +kernel) (by decide +kernel)
theorem q_2140 : Cond.code yX12_keepsLaw cX12_keepsLaw 3 none ∈ GW := inG 2140 (by decide +kernel) (by decide +kernel)
theorem hdV_X12_keepsLaw : yX12_keepsLaw.cls = RX12 ∧ yX12_keepsLaw.cls ≠ "java/lang/invoke/MethodHandle" ∧ yX12_keepsLaw.cls ≠ "java/lang/invoke/VarHandle" ∧ (parseMethodDescriptor yX12_keepsLaw.desc).map (fun d => d.parameters.length) = some 1 := by decide +kernel
theorem hdV_X12_keepsTexts : yX12_keepsTexts.cls = RX12 ∧ yX12_keepsTexts.cls ≠ "java/lang/invoke/MethodHandle" ∧ yX12_keepsTexts.cls ≠ "java/lang/invoke/VarHandle" ∧ (parseMethodDescriptor yX12_keepsTexts.desc).map (fun d => d.parameters.length) = some 0 := by decide +kernel
theorem hdV_X12_keepsVillage : yX12_keepsVillage.cls = RX12 ∧ yX12_keepsVillage.cls ≠ "java/lang/invoke/MethodHandle" ∧ yX12_keepsVillage.cls ≠ "java/lang/invoke/VarHandle" ∧ (parseMethodDescriptor yX12_keepsVillage.desc).map (fun d => d.parameters.length) = some 0 := by decide +kernel
theorem hdV_X12_kept : yX12_kept.cls = RX12 ∧ yX12_kept.cls ≠ "java/lang/invoke/MethodHandle" ∧ yX12_kept.cls ≠ "java/lang/invoke/VarHandle" ∧ (parseMethodDescriptor yX12_kept.desc).map (fun d => d.parameters.length) = some 1 := by decide +kernel
