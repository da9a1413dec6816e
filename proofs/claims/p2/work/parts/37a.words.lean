theorem dX12_readsText_0 : decode cX12_readsText 0 = .ok (.aload_n 0, 1) := by decide +kernel
theorem dX12_readsText_1 : decode cX12_readsText 1 = .ok (.iload_n 1, 1) := by decide +kernel
theorem dX12_readsText_2 : decode cX12_readsText 2 = .ok (.putfield 216, 3) := by decide +kernel
theorem dX12_readsText_5 : decode cX12_readsText 5 = .ok (.aload_n 0, 1) := by decide +kernel
theorem dX12_readsText_6 : decode cX12_readsText 6 = .ok (.invokevirtual 229, 3) := by decide +kernel
theorem dX12_readsText_9 : decode cX12_readsText 9 = .ok (.iload_n 1, 1) := by decide +kernel
theorem dX12_readsText_10 : decode cX12_readsText 10 = .ok (.iconst 2, 1) := by decide +kernel
theorem dX12_readsText_11 : decode cX12_readsText 11 = .ok (.if_icmp .ne 8, 3) := by decide +kernel
theorem dX12_readsText_14 : decode cX12_readsText 14 = .ok (.aload_n 0, 1) := by decide +kernel
theorem dX12_readsText_15 : decode cX12_readsText 15 = .ok (.invokevirtual 309, 3) := by decide +kernel
theorem dX12_readsText_18 : decode cX12_readsText 18 = .ok (.ireturn, 1) := by decide +kernel
theorem dX12_readsText_19 : decode cX12_readsText 19 = .ok (.iload_n 1, 1) := by decide +kernel
theorem dX12_readsText_20 : decode cX12_readsText 20 = .ok (.iconst 3, 1) := by decide +kernel
theorem dX12_readsText_21 : decode cX12_readsText 21 = .ok (.if_icmp .ne 8, 3) := by decide +kernel
theorem dX12_readsText_24 : decode cX12_readsText 24 = .ok (.aload_n 0, 1) := by decide +kernel
theorem dX12_readsText_25 : decode cX12_readsText 25 = .ok (.invokevirtual 312, 3) := by decide +kernel
theorem dX12_readsText_28 : decode cX12_readsText 28 = .ok (.ireturn, 1) := by decide +kernel
theorem dX12_readsText_29 : decode cX12_readsText 29 = .ok (.iload_n 1, 1) := by decide +kernel
theorem dX12_readsText_30 : decode cX12_readsText 30 = .ok (.iconst 4, 1) := by decide +kernel
theorem dX12_readsText_31 : decode cX12_readsText 31 = .ok (.if_icmp .ne 10, 3) := by decide +kernel
theorem dX12_readsText_34 : decode cX12_readsText 34 = .ok (.aload_n 0, 1) := by decide +kernel
theorem dX12_readsText_35 : decode cX12_readsText 35 = .ok (.invokevirtual 315, 3) := by decide +kernel
theorem dX12_readsText_38 : decode cX12_readsText 38 = .ok (.goto 7, 3) := by decide +kernel
theorem dX12_readsText_41 : decode cX12_readsText 41 = .ok (.aload_n 0, 1) := by decide +kernel
theorem dX12_readsText_42 : decode cX12_readsText 42 = .ok (.invokevirtual 318, 3) := by decide +kernel
theorem dX12_readsText_45 : decode cX12_readsText 45 = .ok (.ireturn, 1) := by decide +kernel
theorem dX12_takesOther_0 : decode cX12_takesOther 0 = .ok (.iload_n 1, 1) := by decide +kernel
theorem dX12_takesOther_1 : decode cX12_takesOther 1 = .ok (.iconst 2, 1) := by decide +kernel
theorem dX12_takesOther_2 : decode cX12_takesOther 2 = .ok (.if_icmp .ne 39, 3) := by decide +kernel
theorem dX12_takesOther_5 : decode cX12_takesOther 5 = .ok (.iconst 0, 1) := by decide +kernel
theorem dX12_takesOther_6 : decode cX12_takesOther 6 = .ok (.istore_n 3, 1) := by decide +kernel
theorem dX12_takesOther_7 : decode cX12_takesOther 7 = .ok (.iload_n 3, 1) := by decide +kernel
theorem dX12_takesOther_8 : decode cX12_takesOther 8 = .ok (.iconst 4, 1) := by decide +kernel
theorem dX12_takesOther_9 : decode cX12_takesOther 9 = .ok (.iload_n 2, 1) := by decide +kernel
theorem dX12_takesOther_10 : decode cX12_takesOther 10 = .ok (.imul, 1) := by decide +kernel
theorem dX12_takesOther_11 : decode cX12_takesOther 11 = .ok (.if_icmp .ge 25, 3) := by decide +kernel
theorem dX12_takesOther_14 : decode cX12_takesOther 14 = .ok (.aload_n 0, 1) := by decide +kernel
theorem dX12_takesOther_15 : decode cX12_takesOther 15 = .ok (.getfield 74, 3) := by decide +kernel
theorem dX12_takesOther_18 : decode cX12_takesOther 18 = .ok (.iload_n 3, 1) := by decide +kernel
theorem dX12_takesOther_19 : decode cX12_takesOther 19 = .ok (.aload_n 0, 1) := by decide +kernel
theorem dX12_takesOther_20 : decode cX12_takesOther 20 = .ok (.getfield 74, 3) := by decide +kernel
theorem dX12_takesOther_23 : decode cX12_takesOther 23 = .ok (.sipush 160, 3) := by decide +kernel
theorem dX12_takesOther_26 : decode cX12_takesOther 26 = .ok (.iload_n 3, 1) := by decide +kernel
theorem dX12_takesOther_27 : decode cX12_takesOther 27 = .ok (.iadd, 1) := by decide +kernel
theorem dX12_takesOther_28 : decode cX12_takesOther 28 = .ok (.iaload, 1) := by decide +kernel
theorem dX12_takesOther_29 : decode cX12_takesOther 29 = .ok (.iastore, 1) := by decide +kernel
theorem dX12_takesOther_30 : decode cX12_takesOther 30 = .ok (.iinc 3 1, 3) := by decide +kernel
theorem dX12_takesOther_33 : decode cX12_takesOther 33 = .ok (.goto (-26), 3) := by decide +kernel
theorem dX12_takesOther_36 : decode cX12_takesOther 36 = .ok (.aload_n 0, 1) := by decide +kernel
theorem dX12_takesOther_37 : decode cX12_takesOther 37 = .ok (.iload_n 2, 1) := by decide +kernel
theorem dX12_takesOther_38 : decode cX12_takesOther 38 = .ok (.putfield 321, 3) := by decide +kernel
theorem dX12_takesOther_41 : decode cX12_takesOther 41 = .ok (.iload_n 1, 1) := by decide +kernel
theorem dX12_takesOther_42 : decode cX12_takesOther 42 = .ok (.iconst 3, 1) := by decide +kernel
theorem dX12_takesOther_43 : decode cX12_takesOther 43 = .ok (.if_icmp .ne 72, 3) := by decide +kernel
theorem dX12_takesOther_46 : decode cX12_takesOther 46 = .ok (.iconst 0, 1) := by decide +kernel
theorem dX12_takesOther_47 : decode cX12_takesOther 47 = .ok (.istore_n 3, 1) := by decide +kernel
theorem dX12_takesOther_48 : decode cX12_takesOther 48 = .ok (.iload_n 3, 1) := by decide +kernel
theorem dX12_takesOther_49 : decode cX12_takesOther 49 = .ok (.iconst 5, 1) := by decide +kernel
theorem dX12_takesOther_50 : decode cX12_takesOther 50 = .ok (.iload_n 2, 1) := by decide +kernel
theorem dX12_takesOther_51 : decode cX12_takesOther 51 = .ok (.imul, 1) := by decide +kernel
theorem dX12_takesOther_52 : decode cX12_takesOther 52 = .ok (.if_icmp .ge 24, 3) := by decide +kernel
theorem dX12_takesOther_55 : decode cX12_takesOther 55 = .ok (.aload_n 0, 1) := by decide +kernel
theorem dX12_takesOther_56 : decode cX12_takesOther 56 = .ok (.getfield 77, 3) := by decide +kernel
theorem dX12_takesOther_59 : decode cX12_takesOther 59 = .ok (.iload_n 3, 1) := by decide +kernel
theorem dX12_takesOther_60 : decode cX12_takesOther 60 = .ok (.aload_n 0, 1) := by decide +kernel
theorem dX12_takesOther_61 : decode cX12_takesOther 61 = .ok (.getfield 77, 3) := by decide +kernel
theorem dX12_takesOther_64 : decode cX12_takesOther 64 = .ok (.bipush 50, 2) := by decide +kernel
theorem dX12_takesOther_66 : decode cX12_takesOther 66 = .ok (.iload_n 3, 1) := by decide +kernel
theorem dX12_takesOther_67 : decode cX12_takesOther 67 = .ok (.iadd, 1) := by decide +kernel
theorem dX12_takesOther_68 : decode cX12_takesOther 68 = .ok (.iaload, 1) := by decide +kernel
theorem dX12_takesOther_69 : decode cX12_takesOther 69 = .ok (.iastore, 1) := by decide +kernel
theorem dX12_takesOther_70 : decode cX12_takesOther 70 = .ok (.iinc 3 1, 3) := by decide +kernel
theorem dX12_takesOther_73 : decode cX12_takesOther 73 = .ok (.goto (-25), 3) := by decide +kernel
theorem dX12_takesOther_76 : decode cX12_takesOther 76 = .ok (.aload_n 0, 1) := by decide +kernel
theorem dX12_takesOther_77 : decode cX12_takesOther 77 = .ok (.iload_n 2, 1) := by decide +kernel
theorem dX12_takesOther_78 : decode cX12_takesOther 78 = .ok (.putfield 324, 3) := by decide +kernel
theorem dX12_takesOther_81 : decode cX12_takesOther 81 = .ok (.iconst 0, 1) := by decide +kernel
theorem dX12_takesOther_82 : decode cX12_takesOther 82 = .ok (.istore_n 3, 1) := by decide +kernel
theorem dX12_takesOther_83 : decode cX12_takesOther 83 = .ok (.iload_n 3, 1) := by decide +kernel
theorem dX12_takesOther_84 : decode cX12_takesOther 84 = .ok (.bipush 10, 2) := by decide +kernel
theorem dX12_takesOther_86 : decode cX12_takesOther 86 = .ok (.if_icmp .ge 29, 3) := by decide +kernel
theorem dX12_takesOther_89 : decode cX12_takesOther 89 = .ok (.aload_n 0, 1) := by decide +kernel
theorem dX12_takesOther_90 : decode cX12_takesOther 90 = .ok (.getfield 7, 3) := by decide +kernel
theorem dX12_takesOther_93 : decode cX12_takesOther 93 = .ok (.bipush 46, 2) := by decide +kernel
theorem dX12_takesOther_95 : decode cX12_takesOther 95 = .ok (.iload_n 3, 1) := by decide +kernel
theorem dX12_takesOther_96 : decode cX12_takesOther 96 = .ok (.iadd, 1) := by decide +kernel
theorem dX12_takesOther_97 : decode cX12_takesOther 97 = .ok (.iconst 0, 1) := by decide +kernel
theorem dX12_takesOther_98 : decode cX12_takesOther 98 = .ok (.iastore, 1) := by decide +kernel
theorem dX12_takesOther_99 : decode cX12_takesOther 99 = .ok (.aload_n 0, 1) := by decide +kernel
theorem dX12_takesOther_100 : decode cX12_takesOther 100 = .ok (.getfield 7, 3) := by decide +kernel
theorem dX12_takesOther_103 : decode cX12_takesOther 103 = .ok (.bipush 56, 2) := by decide +kernel
theorem dX12_takesOther_105 : decode cX12_takesOther 105 = .ok (.iload_n 3, 1) := by decide +kernel
theorem dX12_takesOther_106 : decode cX12_takesOther 106 = .ok (.iadd, 1) := by decide +kernel
theorem dX12_takesOther_107 : decode cX12_takesOther 107 = .ok (.iconst 0, 1) := by decide +kernel
theorem dX12_takesOther_108 : decode cX12_takesOther 108 = .ok (.iastore, 1) := by decide +kernel
theorem dX12_takesOther_109 : decode cX12_takesOther 109 = .ok (.iinc 3 1, 3) := by decide +kernel
theorem dX12_takesOther_112 : decode cX12_takesOther 112 = .ok (.goto (-29), 3) := by decide +kernel
theorem dX12_takesOther_115 : decode cX12_takesOther 115 = .ok (.iload_n 1, 1) := by decide +kernel
theorem dX12_takesOther_116 : decode cX12_takesOther 116 = .ok (.iconst 4, 1) := by decide +kernel
theorem dX12_takesOther_117 : decode cX12_takesOther 117 = .ok (.if_icmp .ne 44, 3) := by decide +kernel
theorem dX12_takesOther_120 : decode cX12_takesOther 120 = .ok (.iconst 0, 1) := by decide +kernel
theorem dX12_takesOther_121 : decode cX12_takesOther 121 = .ok (.istore_n 3, 1) := by decide +kernel
theorem dX12_takesOther_122 : decode cX12_takesOther 122 = .ok (.iload_n 3, 1) := by decide +kernel
theorem dX12_takesOther_123 : decode cX12_takesOther 123 = .ok (.iload_n 2, 1) := by decide +kernel
theorem dX12_takesOther_124 : decode cX12_takesOther 124 = .ok (.if_icmp .ge 25, 3) := by decide +kernel
theorem dX12_takesOther_127 : decode cX12_takesOther 127 = .ok (.aload_n 0, 1) := by decide +kernel
theorem dX12_takesOther_128 : decode cX12_takesOther 128 = .ok (.getfield 86, 3) := by decide +kernel
theorem dX12_takesOther_131 : decode cX12_takesOther 131 = .ok (.iload_n 3, 1) := by decide +kernel
theorem dX12_takesOther_132 : decode cX12_takesOther 132 = .ok (.aload_n 0, 1) := by decide +kernel
theorem dX12_takesOther_133 : decode cX12_takesOther 133 = .ok (.getfield 86, 3) := by decide +kernel
theorem dX12_takesOther_136 : decode cX12_takesOther 136 = .ok (.sipush 200, 3) := by decide +kernel
theorem dX12_takesOther_139 : decode cX12_takesOther 139 = .ok (.iload_n 3, 1) := by decide +kernel
theorem dX12_takesOther_140 : decode cX12_takesOther 140 = .ok (.iadd, 1) := by decide +kernel
theorem dX12_takesOther_141 : decode cX12_takesOther 141 = .ok (.iaload, 1) := by decide +kernel
theorem dX12_takesOther_142 : decode cX12_takesOther 142 = .ok (.iastore, 1) := by decide +kernel
theorem dX12_takesOther_143 : decode cX12_takesOther 143 = .ok (.iinc 3 1, 3) := by decide +kernel
theorem dX12_takesOther_146 : decode cX12_takesOther 146 = .ok (.goto (-24), 3) := by decide +kernel
theorem dX12_takesOther_149 : decode cX12_takesOther 149 = .ok (.aload_n 0, 1) := by decide +kernel
theorem dX12_takesOther_150 : decode cX12_takesOther 150 = .ok (.iload_n 2, 1) := by decide +kernel
theorem dX12_takesOther_151 : decode cX12_takesOther 151 = .ok (.putfield 327, 3) := by decide +kernel
theorem dX12_takesOther_154 : decode cX12_takesOther 154 = .ok (.aload_n 0, 1) := by decide +kernel
theorem dX12_takesOther_155 : decode cX12_takesOther 155 = .ok (.getfield 7, 3) := by decide +kernel
theorem dX12_takesOther_158 : decode cX12_takesOther 158 = .ok (.iconst 5, 1) := by decide +kernel
theorem dX12_takesOther_159 : decode cX12_takesOther 159 = .ok (.iconst 0, 1) := by decide +kernel
theorem dX12_takesOther_160 : decode cX12_takesOther 160 = .ok (.iastore, 1) := by decide +kernel
theorem dX12_takesOther_161 : decode cX12_takesOther 161 = .ok (.aload_n 0, 1) := by decide +kernel
theorem dX12_takesOther_162 : decode cX12_takesOther 162 = .ok (.iconst 0, 1) := by decide +kernel
theorem dX12_takesOther_163 : decode cX12_takesOther 163 = .ok (.putfield 133, 3) := by decide +kernel
theorem dX12_takesOther_166 : decode cX12_takesOther 166 = .ok (.return_, 1) := by decide +kernel
theorem dX12_text_0 : decode cX12_text 0 = .ok (.aload_n 0, 1) := by decide +kernel
theorem dX12_text_1 : decode cX12_text 1 = .ok (.iconst 0, 1) := by decide +kernel
theorem dX12_text_2 : decode cX12_text 2 = .ok (.putfield 130, 3) := by decide +kernel
theorem dX12_text_5 : decode cX12_text 5 = .ok (.aload_n 0, 1) := by decide +kernel
theorem dX12_text_6 : decode cX12_text 6 = .ok (.iconst 0, 1) := by decide +kernel
theorem dX12_text_7 : decode cX12_text 7 = .ok (.putfield 330, 3) := by decide +kernel
theorem dX12_text_10 : decode cX12_text 10 = .ok (.aload_n 0, 1) := by decide +kernel
theorem dX12_text_11 : decode cX12_text 11 = .ok (.iconst (-1), 1) := by decide +kernel
theorem dX12_text_12 : decode cX12_text 12 = .ok (.putfield 70, 3) := by decide +kernel
theorem dX12_text_15 : decode cX12_text 15 = .ok (.aload_n 0, 1) := by decide +kernel
theorem dX12_text_16 : decode cX12_text 16 = .ok (.iconst 0, 1) := by decide +kernel
theorem dX12_text_17 : decode cX12_text 17 = .ok (.putfield 179, 3) := by decide +kernel
theorem dX12_text_20 : decode cX12_text 20 = .ok (.aload_n 0, 1) := by decide +kernel
theorem dX12_text_21 : decode cX12_text 21 = .ok (.iconst 0, 1) := by decide +kernel
theorem dX12_text_22 : decode cX12_text 22 = .ok (.putfield 213, 3) := by decide +kernel
theorem dX12_text_25 : decode cX12_text 25 = .ok (.aload_n 0, 1) := by decide +kernel
theorem dX12_text_26 : decode cX12_text 26 = .ok (.iconst 0, 1) := by decide +kernel
theorem dX12_text_27 : decode cX12_text 27 = .ok (.putfield 248, 3) := by decide +kernel
theorem dX12_text_30 : decode cX12_text 30 = .ok (.iconst (-1), 1) := by decide +kernel
theorem dX12_text_31 : decode cX12_text 31 = .ok (.istore_n 2, 1) := by decide +kernel
theorem dX12_text_32 : decode cX12_text 32 = .ok (.aload_n 0, 1) := by decide +kernel
theorem dX12_text_33 : decode cX12_text 33 = .ok (.iload_n 1, 1) := by decide +kernel
theorem dX12_text_34 : decode cX12_text 34 = .ok (.iconst 0, 1) := by decide +kernel
theorem dX12_text_35 : decode cX12_text 35 = .ok (.iconst 4, 1) := by decide +kernel
theorem dX12_text_36 : decode cX12_text 36 = .ok (.invokevirtual 151, 3) := by decide +kernel
theorem dX12_text_39 : decode cX12_text 39 = .ok (.ifCond .eq 30, 3) := by decide +kernel
theorem dX12_text_42 : decode cX12_text 42 = .ok (.aload_n 0, 1) := by decide +kernel
theorem dX12_text_43 : decode cX12_text 43 = .ok (.iload_n 1, 1) := by decide +kernel
theorem dX12_text_44 : decode cX12_text 44 = .ok (.invokevirtual 333, 3) := by decide +kernel
theorem dX12_text_47 : decode cX12_text 47 = .ok (.istore_n 2, 1) := by decide +kernel
theorem dX12_text_48 : decode cX12_text 48 = .ok (.iload_n 2, 1) := by decide +kernel
theorem dX12_text_49 : decode cX12_text 49 = .ok (.iconst (-1), 1) := by decide +kernel
theorem dX12_text_50 : decode cX12_text 50 = .ok (.if_icmp .ne 19, 3) := by decide +kernel
theorem dX12_text_53 : decode cX12_text 53 = .ok (.aload_n 0, 1) := by decide +kernel
theorem dX12_text_54 : decode cX12_text 54 = .ok (.aload_n 0, 1) := by decide +kernel
theorem dX12_text_55 : decode cX12_text 55 = .ok (.getfield 207, 3) := by decide +kernel
theorem dX12_text_58 : decode cX12_text 58 = .ok (.putfield 330, 3) := by decide +kernel
theorem dX12_text_61 : decode cX12_text 61 = .ok (.aload_n 0, 1) := by decide +kernel
theorem dX12_text_62 : decode cX12_text 62 = .ok (.aload_n 0, 1) := by decide +kernel
theorem dX12_text_63 : decode cX12_text 63 = .ok (.getfield 210, 3) := by decide +kernel
theorem dX12_text_66 : decode cX12_text 66 = .ok (.putfield 70, 3) := by decide +kernel
theorem dX12_text_69 : decode cX12_text 69 = .ok (.aload_n 0, 1) := by decide +kernel
theorem dX12_text_70 : decode cX12_text 70 = .ok (.iconst 0, 1) := by decide +kernel
theorem dX12_text_71 : decode cX12_text 71 = .ok (.putfield 172, 3) := by decide +kernel
theorem dX12_text_74 : decode cX12_text 74 = .ok (.iload_n 2, 1) := by decide +kernel
theorem dX12_text_75 : decode cX12_text 75 = .ok (.iconst (-1), 1) := by decide +kernel
theorem dX12_text_76 : decode cX12_text 76 = .ok (.if_icmp .ne 5, 3) := by decide +kernel
theorem dX12_text_79 : decode cX12_text 79 = .ok (.iconst (-1), 1) := by decide +kernel
theorem dX12_text_80 : decode cX12_text 80 = .ok (.ireturn, 1) := by decide +kernel
theorem dX12_text_81 : decode cX12_text 81 = .ok (.iload_n 1, 1) := by decide +kernel
theorem dX12_text_82 : decode cX12_text 82 = .ok (.iconst 1, 1) := by decide +kernel
theorem dX12_text_83 : decode cX12_text 83 = .ok (.if_icmp .gt 11, 3) := by decide +kernel
theorem dX12_text_86 : decode cX12_text 86 = .ok (.aload_n 0, 1) := by decide +kernel
theorem dX12_text_87 : decode cX12_text 87 = .ok (.iload_n 2, 1) := by decide +kernel
theorem dX12_text_88 : decode cX12_text 88 = .ok (.invokevirtual 336, 3) := by decide +kernel
theorem dX12_text_91 : decode cX12_text 91 = .ok (.goto 9, 3) := by decide +kernel
theorem dX12_text_94 : decode cX12_text 94 = .ok (.aload_n 0, 1) := by decide +kernel
theorem dX12_text_95 : decode cX12_text 95 = .ok (.iload_n 1, 1) := by decide +kernel
theorem dX12_text_96 : decode cX12_text 96 = .ok (.iload_n 2, 1) := by decide +kernel
theorem dX12_text_97 : decode cX12_text 97 = .ok (.invokevirtual 339, 3) := by decide +kernel
theorem dX12_text_100 : decode cX12_text 100 = .ok (.iload_n 2, 1) := by decide +kernel
theorem dX12_text_101 : decode cX12_text 101 = .ok (.ireturn, 1) := by decide +kernel
theorem q_1662 : Cond.methodLink RX12 333 yX12_readsText ∈ GW := inG 1662 (by decide +kernel) (by decide +kernel)
theorem q_1664 : Cond.instanceMethod yX12_readsText ∈ GW := inG 1664 (by decide +kernel) (by decide +kernel)
theorem q_1665 : Cond.code yX12_readsText cX12_readsText 2 (some .int) ∈ GW := inG 1665 (by decide +kernel) (by decide +kernel)
theorem q_1690 : Cond.methodLink RX12 309 yX12_readPaths ∈ GW := inG 1690 (by decide +kernel) (by decide +kernel)
theorem q_1692 : Cond.instanceMethod yX12_readPaths ∈ GW := inG 1692 (by decide +kernel) (by decide +kernel)
theorem q_1693 : Cond.code yX12_readPaths cX12_readPaths 2 (some .int) ∈ GW := inG 1693 (by decide +kernel) (by decide +kernel)
theorem q_1722 : Cond.methodLink RX12 312 yX12_readNeeds ∈ GW := inG 1722 (by decide +kernel) (by decide +kernel)
theorem q_1724 : Cond.instanceMethod yX12_readNeeds ∈ GW := inG 1724 (by decide +kernel) (by decide +kernel)
theorem q_1725 : Cond.code yX12_readNeeds cX12_readNeeds 2 (some .int) ∈ GW := inG 1725 (by decide +kernel) (by decide +kernel)
theorem q_1730 : Cond.methodLink RX12 315 yX12_readRound ∈ GW := inG 1730 (by decide +kernel) (by decide +kernel)
theorem q_1732 : Cond.instanceMethod yX12_readRound ∈ GW := inG 1732 (by decide +kernel) (by decide +kernel)
theorem q_1733 : Cond.code yX12_readRound cX12_readRound 1 (some .int) ∈ GW := inG 1733 (by decide +kernel) (by decide +kernel)
theorem q_1762 : Cond.methodLink RX12 318 yX12_readLaw ∈ GW := inG 1762 (by decide +kernel) (by decide +kernel)
theorem q_1764 : Cond.instanceMethod yX12_readLaw ∈ GW := inG 1764 (by decide +kernel) (by decide +kernel)
theorem q_1765 : Cond.code yX12_readLaw cX12_readLaw 3 (some .int) ∈ GW := inG 1765 (by decide +kernel) (by decide +kernel)
theorem q_1806 : Cond.methodLink RX12 336 yX12_takesLaw ∈ GW := inG 1806 (by decide +kernel) (by decide +kernel)
theorem q_1808 : Cond.instanceMethod yX12_takesLaw ∈ GW := inG 1808 (by decide +kernel) (by decide +kernel)
theorem q_1809 : Cond.code yX12_takesLaw cX12_takesLaw 3 none ∈ GW := inG 1809 (by decide +kernel) (by decide +kernel)
theorem q_1810 : Cond.methodLink RX12 339 yX12_takesOther ∈ GW := inG 1810 (by decide +kernel) (by decide +kernel)
theorem q_1812 : Cond.instanceMethod yX12_takesOther ∈ GW := inG 1812 (by decide +kernel) (by decide +kernel)
theorem q_1813 : Cond.code yX12_takesOther cX12_takesOther 4 none ∈ GW := inG 1813 (by decide +kernel) (by decide +kernel)
theorem q_51 : Cond.selects RX12 yX12_readsText yX12_readsText ∈ GW := inG 51 (by decide +kernel) (by decide +kernel)
theorem q_58 : Cond.selects RX12 yX12_readPaths yX12_readPaths ∈ GW := inG 58 (by decide +kernel) (by decide +kernel)
theorem q_66 : Cond.selects RX12 yX12_readNeeds yX12_readNeeds ∈ GW := inG 66 (by decide +kernel) (by decide +kernel)
theorem q_68 : Cond.selects RX12 yX12_readRound yX12_readRound ∈ GW := inG 68 (by decide +kernel) (by decide +kernel)
theorem q_76 : Cond.selects RX12 yX12_readLaw yX12_readLaw ∈ GW := inG 76 (by decide +kernel) (by decide +kernel)
theorem q_87 : Cond.selects RX12 yX12_takesLaw yX12_takesLaw ∈ GW := inG 87 (by decide +kernel) (by decide +kernel)
theorem q_88 : Cond.selects RX12 yX12_takesOther yX12_takesOther ∈ GW := inG 88 (by decide +kernel) (by decide +kernel)
theorem hdV_X12_readLaw : yX12_readLaw.cls = RX12 ∧ yX12_readLaw.cls ≠ "java/lang/invoke/MethodHandle" ∧ yX12_readLaw.cls ≠ "java/lang/invoke/VarHandle" ∧ (parseMethodDescriptor yX12_readLaw.desc).map (fun d => d.parameters.length) = some 0 := by decide +kernel
theorem hdV_X12_readNeeds : yX12_readNeeds.cls = RX12 ∧ yX12_readNeeds.cls ≠ "java/lang/invoke/MethodHandle" ∧ yX12_readNeeds.cls ≠ "java/lang/invoke/VarHandle" ∧ (parseMethodDescriptor yX12_readNeeds.desc).map (fun d => d.parameters.length) = some 0 := by decide +kernel
theorem hdV_X12_readPaths : yX12_readPaths.cls = RX12 ∧ yX12_readPaths.cls ≠ "java/lang/invoke/MethodHandle" ∧ yX12_readPaths.cls ≠ "java/lang/invoke/VarHandle" ∧ (parseMethodDescriptor yX12_readPaths.desc).map (fun d => d.parameters.length) = some 0 := by decide +kernel
theorem hdV_X12_readRound : yX12_readRound.cls = RX12 ∧ yX12_readRound.cls ≠ "java/lang/invoke/MethodHandle" ∧ yX12_readRound.cls ≠ "java/lang/invoke/VarHandle" ∧ (parseMethodDescriptor yX12_readRound.desc).map (fun d => d.parameters.length) = some 0 := by decide +kernel
theorem hdV_X12_readsText : yX12_readsText.cls = RX12 ∧ yX12_readsText.cls ≠ "java/lang/invoke/MethodHandle" ∧ yX12_readsText.cls ≠ "java/lang/invoke/VarHandle" ∧ (parseMethodDescriptor yX12_readsText.desc).map (fun d => d.parameters.length) = some 1 := by decide +kernel
theorem hdV_X12_takesLaw : yX12_takesLaw.cls = RX12 ∧ yX12_takesLaw.cls ≠ "java/lang/invoke/MethodHandle" ∧ yX12_takesLaw.cls ≠ "java/lang/invoke/VarHandle" ∧ (parseMethodDescriptor yX12_takesLaw.desc).map (fun d => d.parameters.length) = some 1 := by decide +kernel
theorem hdV_X12_takesOther : yX12_takesOther.cls = RX12 ∧ yX12_takesOther.cls ≠ "java/lang/invoke/MethodHandle" ∧ yX12_takesOther.cls ≠ "java/lang/invoke/VarHandle" ∧ (parseMethodDescriptor yX12_takesOther.desc).map (fun d => d.parameters.length) = some 2 := by decide +kernel
