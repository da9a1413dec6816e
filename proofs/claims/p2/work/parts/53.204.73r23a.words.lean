theorem dX12_ask_0 : decode cX12_ask 0 = .ok (.aload_n 0, 1) := by decide +kernel
theorem dX12_ask_1 : decode cX12_ask 1 = .ok (.iconst 0, 1) := by decide +kernel
theorem dX12_ask_2 : decode cX12_ask 2 = .ok (.putfield 130, 3) := by decide +kernel
theorem dX12_ask_5 : decode cX12_ask 5 = .ok (.aload_n 0, 1) := by decide +kernel
theorem dX12_ask_6 : decode cX12_ask 6 = .ok (.iload_n 1, 1) := by decide +kernel
theorem dX12_ask_7 : decode cX12_ask 7 = .ok (.iconst 1, 1) := by decide +kernel
theorem dX12_ask_8 : decode cX12_ask 8 = .ok (.bipush 10, 2) := by decide +kernel
theorem dX12_ask_10 : decode cX12_ask 10 = .ok (.invokevirtual 151, 3) := by decide +kernel
theorem dX12_ask_13 : decode cX12_ask 13 = .ok (.ifCond .eq 13, 3) := by decide +kernel
theorem dX12_ask_16 : decode cX12_ask 16 = .ok (.aload_n 0, 1) := by decide +kernel
theorem dX12_ask_17 : decode cX12_ask 17 = .ok (.iload_n 2, 1) := by decide +kernel
theorem dX12_ask_18 : decode cX12_ask 18 = .ok (.iconst 0, 1) := by decide +kernel
theorem dX12_ask_19 : decode cX12_ask 19 = .ok (.iconst 1, 1) := by decide +kernel
theorem dX12_ask_20 : decode cX12_ask 20 = .ok (.invokevirtual 151, 3) := by decide +kernel
theorem dX12_ask_23 : decode cX12_ask 23 = .ok (.ifCond .ne 5, 3) := by decide +kernel
theorem dX12_ask_26 : decode cX12_ask 26 = .ok (.iconst (-1), 1) := by decide +kernel
theorem dX12_ask_27 : decode cX12_ask 27 = .ok (.ireturn, 1) := by decide +kernel
theorem dX12_ask_28 : decode cX12_ask 28 = .ok (.aload_n 0, 1) := by decide +kernel
theorem dX12_ask_29 : decode cX12_ask 29 = .ok (.iload_n 1, 1) := by decide +kernel
theorem dX12_ask_30 : decode cX12_ask 30 = .ok (.invokevirtual 529, 3) := by decide +kernel
theorem dX12_ask_33 : decode cX12_ask 33 = .ok (.aload_n 0, 1) := by decide +kernel
theorem dX12_ask_34 : decode cX12_ask 34 = .ok (.iload_n 1, 1) := by decide +kernel
theorem dX12_ask_35 : decode cX12_ask 35 = .ok (.invokevirtual 532, 3) := by decide +kernel
theorem dX12_ask_38 : decode cX12_ask 38 = .ok (.lstore_n 3, 1) := by decide +kernel
theorem dX12_ask_39 : decode cX12_ask 39 = .ok (.iconst (-1), 1) := by decide +kernel
theorem dX12_ask_40 : decode cX12_ask 40 = .ok (.istore 5, 2) := by decide +kernel
theorem dX12_ask_42 : decode cX12_ask 42 = .ok (.lload_n 3, 1) := by decide +kernel
theorem dX12_ask_43 : decode cX12_ask 43 = .ok (.lstore 6, 2) := by decide +kernel
theorem dX12_ask_45 : decode cX12_ask 45 = .ok (.iconst 0, 1) := by decide +kernel
theorem dX12_ask_46 : decode cX12_ask 46 = .ok (.istore 8, 2) := by decide +kernel
theorem dX12_ask_48 : decode cX12_ask 48 = .ok (.iload 8, 2) := by decide +kernel
theorem dX12_ask_50 : decode cX12_ask 50 = .ok (.iload_n 1, 1) := by decide +kernel
theorem dX12_ask_51 : decode cX12_ask 51 = .ok (.if_icmp .ge 95, 3) := by decide +kernel
theorem dX12_ask_54 : decode cX12_ask 54 = .ok (.lload_n 3, 1) := by decide +kernel
theorem dX12_ask_55 : decode cX12_ask 55 = .ok (.lconst 0, 1) := by decide +kernel
theorem dX12_ask_56 : decode cX12_ask 56 = .ok (.lcmp, 1) := by decide +kernel
theorem dX12_ask_57 : decode cX12_ask 57 = .ok (.ifCond .le 89, 3) := by decide +kernel
theorem dX12_ask_60 : decode cX12_ask 60 = .ok (.iconst 0, 1) := by decide +kernel
theorem dX12_ask_61 : decode cX12_ask 61 = .ok (.istore 9, 2) := by decide +kernel
theorem dX12_ask_63 : decode cX12_ask 63 = .ok (.iload 9, 2) := by decide +kernel
theorem dX12_ask_65 : decode cX12_ask 65 = .ok (.aload_n 0, 1) := by decide +kernel
theorem dX12_ask_66 : decode cX12_ask 66 = .ok (.getfield 148, 3) := by decide +kernel
theorem dX12_ask_69 : decode cX12_ask 69 = .ok (.if_icmp .ge 71, 3) := by decide +kernel
theorem dX12_ask_72 : decode cX12_ask 72 = .ok (.aload_n 0, 1) := by decide +kernel
theorem dX12_ask_73 : decode cX12_ask 73 = .ok (.iload 8, 2) := by decide +kernel
theorem dX12_ask_75 : decode cX12_ask 75 = .ok (.iload 9, 2) := by decide +kernel
theorem dX12_ask_77 : decode cX12_ask 77 = .ok (.invokevirtual 536, 3) := by decide +kernel
theorem dX12_ask_80 : decode cX12_ask 80 = .ok (.lstore 10, 2) := by decide +kernel
theorem dX12_ask_82 : decode cX12_ask 82 = .ok (.lload 10, 2) := by decide +kernel
theorem dX12_ask_84 : decode cX12_ask 84 = .ok (.lload_n 3, 1) := by decide +kernel
theorem dX12_ask_85 : decode cX12_ask 85 = .ok (.lload 10, 2) := by decide +kernel
theorem dX12_ask_87 : decode cX12_ask 87 = .ok (.lsub, 1) := by decide +kernel
theorem dX12_ask_88 : decode cX12_ask 88 = .ok (.lcmp, 1) := by decide +kernel
theorem dX12_ask_89 : decode cX12_ask 89 = .ok (.ifCond .le 8, 3) := by decide +kernel
theorem dX12_ask_92 : decode cX12_ask 92 = .ok (.lload 10, 2) := by decide +kernel
theorem dX12_ask_94 : decode cX12_ask 94 = .ok (.goto 7, 3) := by decide +kernel
theorem dX12_ask_97 : decode cX12_ask 97 = .ok (.lload_n 3, 1) := by decide +kernel
theorem dX12_ask_98 : decode cX12_ask 98 = .ok (.lload 10, 2) := by decide +kernel
theorem dX12_ask_100 : decode cX12_ask 100 = .ok (.lsub, 1) := by decide +kernel
theorem dX12_ask_101 : decode cX12_ask 101 = .ok (.lstore 12, 2) := by decide +kernel
theorem dX12_ask_103 : decode cX12_ask 103 = .ok (.iload 5, 2) := by decide +kernel
theorem dX12_ask_105 : decode cX12_ask 105 = .ok (.iconst (-1), 1) := by decide +kernel
theorem dX12_ask_106 : decode cX12_ask 106 = .ok (.if_icmp .eq 14, 3) := by decide +kernel
theorem dX12_ask_109 : decode cX12_ask 109 = .ok (.lload 12, 2) := by decide +kernel
theorem dX12_ask_111 : decode cX12_ask 111 = .ok (.lload 6, 2) := by decide +kernel
theorem dX12_ask_113 : decode cX12_ask 113 = .ok (.lcmp, 1) := by decide +kernel
theorem dX12_ask_114 : decode cX12_ask 114 = .ok (.ifCond .lt 6, 3) := by decide +kernel
theorem dX12_ask_117 : decode cX12_ask 117 = .ok (.goto 17, 3) := by decide +kernel
theorem dX12_ask_120 : decode cX12_ask 120 = .ok (.bipush 10, 2) := by decide +kernel
theorem dX12_ask_122 : decode cX12_ask 122 = .ok (.iload 8, 2) := by decide +kernel
theorem dX12_ask_124 : decode cX12_ask 124 = .ok (.imul, 1) := by decide +kernel
theorem dX12_ask_125 : decode cX12_ask 125 = .ok (.iload 9, 2) := by decide +kernel
theorem dX12_ask_127 : decode cX12_ask 127 = .ok (.iadd, 1) := by decide +kernel
theorem dX12_ask_128 : decode cX12_ask 128 = .ok (.istore 5, 2) := by decide +kernel
theorem dX12_ask_130 : decode cX12_ask 130 = .ok (.lload 12, 2) := by decide +kernel
theorem dX12_ask_132 : decode cX12_ask 132 = .ok (.lstore 6, 2) := by decide +kernel
theorem dX12_ask_134 : decode cX12_ask 134 = .ok (.iinc 9 1, 3) := by decide +kernel
theorem dX12_ask_137 : decode cX12_ask 137 = .ok (.goto (-74), 3) := by decide +kernel
theorem dX12_ask_140 : decode cX12_ask 140 = .ok (.iinc 8 1, 3) := by decide +kernel
theorem dX12_ask_143 : decode cX12_ask 143 = .ok (.goto (-95), 3) := by decide +kernel
theorem dX12_ask_146 : decode cX12_ask 146 = .ok (.iload 5, 2) := by decide +kernel
theorem dX12_ask_148 : decode cX12_ask 148 = .ok (.iconst (-1), 1) := by decide +kernel
theorem dX12_ask_149 : decode cX12_ask 149 = .ok (.if_icmp .ne 7, 3) := by decide +kernel
theorem dX12_ask_152 : decode cX12_ask 152 = .ok (.iconst (-1), 1) := by decide +kernel
theorem dX12_ask_153 : decode cX12_ask 153 = .ok (.goto 20, 3) := by decide +kernel
theorem dX12_ask_156 : decode cX12_ask 156 = .ok (.iload_n 2, 1) := by decide +kernel
theorem dX12_ask_157 : decode cX12_ask 157 = .ok (.ifCond .ne 11, 3) := by decide +kernel
theorem dX12_ask_160 : decode cX12_ask 160 = .ok (.iload 5, 2) := by decide +kernel
theorem dX12_ask_162 : decode cX12_ask 162 = .ok (.bipush 10, 2) := by decide +kernel
theorem dX12_ask_164 : decode cX12_ask 164 = .ok (.idiv, 1) := by decide +kernel
theorem dX12_ask_165 : decode cX12_ask 165 = .ok (.goto 8, 3) := by decide +kernel
theorem dX12_ask_168 : decode cX12_ask 168 = .ok (.iload 5, 2) := by decide +kernel
theorem dX12_ask_170 : decode cX12_ask 170 = .ok (.bipush 10, 2) := by decide +kernel
theorem dX12_ask_172 : decode cX12_ask 172 = .ok (.irem, 1) := by decide +kernel
theorem dX12_ask_173 : decode cX12_ask 173 = .ok (.ireturn, 1) := by decide +kernel
theorem dX12_keepsAhead_0 : decode cX12_keepsAhead 0 = .ok (.aload_n 0, 1) := by decide +kernel
theorem dX12_keepsAhead_1 : decode cX12_keepsAhead 1 = .ok (.getfield 133, 3) := by decide +kernel
theorem dX12_keepsAhead_4 : decode cX12_keepsAhead 4 = .ok (.bipush 6, 2) := by decide +kernel
theorem dX12_keepsAhead_6 : decode cX12_keepsAhead 6 = .ok (.if_icmp .ne 47, 3) := by decide +kernel
theorem dX12_keepsAhead_9 : decode cX12_keepsAhead 9 = .ok (.aload_n 0, 1) := by decide +kernel
theorem dX12_keepsAhead_10 : decode cX12_keepsAhead 10 = .ok (.aload_n 0, 1) := by decide +kernel
theorem dX12_keepsAhead_11 : decode cX12_keepsAhead 11 = .ok (.getfield 133, 3) := by decide +kernel
theorem dX12_keepsAhead_14 : decode cX12_keepsAhead 14 = .ok (.iconst 1, 1) := by decide +kernel
theorem dX12_keepsAhead_15 : decode cX12_keepsAhead 15 = .ok (.isub, 1) := by decide +kernel
theorem dX12_keepsAhead_16 : decode cX12_keepsAhead 16 = .ok (.putfield 133, 3) := by decide +kernel
theorem dX12_keepsAhead_19 : decode cX12_keepsAhead 19 = .ok (.iconst 0, 1) := by decide +kernel
theorem dX12_keepsAhead_20 : decode cX12_keepsAhead 20 = .ok (.istore_n 1, 1) := by decide +kernel
theorem dX12_keepsAhead_21 : decode cX12_keepsAhead 21 = .ok (.iload_n 1, 1) := by decide +kernel
theorem dX12_keepsAhead_22 : decode cX12_keepsAhead 22 = .ok (.bipush 66, 2) := by decide +kernel
theorem dX12_keepsAhead_24 : decode cX12_keepsAhead 24 = .ok (.aload_n 0, 1) := by decide +kernel
theorem dX12_keepsAhead_25 : decode cX12_keepsAhead 25 = .ok (.getfield 133, 3) := by decide +kernel
theorem dX12_keepsAhead_28 : decode cX12_keepsAhead 28 = .ok (.imul, 1) := by decide +kernel
theorem dX12_keepsAhead_29 : decode cX12_keepsAhead 29 = .ok (.if_icmp .ge 24, 3) := by decide +kernel
theorem dX12_keepsAhead_32 : decode cX12_keepsAhead 32 = .ok (.aload_n 0, 1) := by decide +kernel
theorem dX12_keepsAhead_33 : decode cX12_keepsAhead 33 = .ok (.getfield 13, 3) := by decide +kernel
theorem dX12_keepsAhead_36 : decode cX12_keepsAhead 36 = .ok (.iload_n 1, 1) := by decide +kernel
theorem dX12_keepsAhead_37 : decode cX12_keepsAhead 37 = .ok (.aload_n 0, 1) := by decide +kernel
theorem dX12_keepsAhead_38 : decode cX12_keepsAhead 38 = .ok (.getfield 13, 3) := by decide +kernel
theorem dX12_keepsAhead_41 : decode cX12_keepsAhead 41 = .ok (.iload_n 1, 1) := by decide +kernel
theorem dX12_keepsAhead_42 : decode cX12_keepsAhead 42 = .ok (.bipush 66, 2) := by decide +kernel
theorem dX12_keepsAhead_44 : decode cX12_keepsAhead 44 = .ok (.iadd, 1) := by decide +kernel
theorem dX12_keepsAhead_45 : decode cX12_keepsAhead 45 = .ok (.iaload, 1) := by decide +kernel
theorem dX12_keepsAhead_46 : decode cX12_keepsAhead 46 = .ok (.iastore, 1) := by decide +kernel
theorem dX12_keepsAhead_47 : decode cX12_keepsAhead 47 = .ok (.iinc 1 1, 3) := by decide +kernel
theorem dX12_keepsAhead_50 : decode cX12_keepsAhead 50 = .ok (.goto (-29), 3) := by decide +kernel
theorem dX12_keepsAhead_53 : decode cX12_keepsAhead 53 = .ok (.iconst 0, 1) := by decide +kernel
theorem dX12_keepsAhead_54 : decode cX12_keepsAhead 54 = .ok (.istore_n 1, 1) := by decide +kernel
theorem dX12_keepsAhead_55 : decode cX12_keepsAhead 55 = .ok (.iload_n 1, 1) := by decide +kernel
theorem dX12_keepsAhead_56 : decode cX12_keepsAhead 56 = .ok (.bipush 66, 2) := by decide +kernel
theorem dX12_keepsAhead_58 : decode cX12_keepsAhead 58 = .ok (.if_icmp .ge 29, 3) := by decide +kernel
theorem dX12_keepsAhead_61 : decode cX12_keepsAhead 61 = .ok (.aload_n 0, 1) := by decide +kernel
theorem dX12_keepsAhead_62 : decode cX12_keepsAhead 62 = .ok (.getfield 13, 3) := by decide +kernel
theorem dX12_keepsAhead_65 : decode cX12_keepsAhead 65 = .ok (.bipush 66, 2) := by decide +kernel
theorem dX12_keepsAhead_67 : decode cX12_keepsAhead 67 = .ok (.aload_n 0, 1) := by decide +kernel
theorem dX12_keepsAhead_68 : decode cX12_keepsAhead 68 = .ok (.getfield 133, 3) := by decide +kernel
theorem dX12_keepsAhead_71 : decode cX12_keepsAhead 71 = .ok (.imul, 1) := by decide +kernel
theorem dX12_keepsAhead_72 : decode cX12_keepsAhead 72 = .ok (.iload_n 1, 1) := by decide +kernel
theorem dX12_keepsAhead_73 : decode cX12_keepsAhead 73 = .ok (.iadd, 1) := by decide +kernel
theorem dX12_keepsAhead_74 : decode cX12_keepsAhead 74 = .ok (.aload_n 0, 1) := by decide +kernel
theorem dX12_keepsAhead_75 : decode cX12_keepsAhead 75 = .ok (.getfield 7, 3) := by decide +kernel
theorem dX12_keepsAhead_78 : decode cX12_keepsAhead 78 = .ok (.iload_n 1, 1) := by decide +kernel
theorem dX12_keepsAhead_79 : decode cX12_keepsAhead 79 = .ok (.iaload, 1) := by decide +kernel
theorem dX12_keepsAhead_80 : decode cX12_keepsAhead 80 = .ok (.iastore, 1) := by decide +kernel
theorem dX12_keepsAhead_81 : decode cX12_keepsAhead 81 = .ok (.iinc 1 1, 3) := by decide +kernel
theorem dX12_keepsAhead_84 : decode cX12_keepsAhead 84 = .ok (.goto (-29), 3) := by decide +kernel
theorem dX12_keepsAhead_87 : decode cX12_keepsAhead 87 = .ok (.aload_n 0, 1) := by decide +kernel
theorem dX12_keepsAhead_88 : decode cX12_keepsAhead 88 = .ok (.aload_n 0, 1) := by decide +kernel
theorem dX12_keepsAhead_89 : decode cX12_keepsAhead 89 = .ok (.getfield 133, 3) := by decide +kernel
theorem dX12_keepsAhead_92 : decode cX12_keepsAhead 92 = .ok (.iconst 1, 1) := by decide +kernel
theorem dX12_keepsAhead_93 : decode cX12_keepsAhead 93 = .ok (.iadd, 1) := by decide +kernel
theorem dX12_keepsAhead_94 : decode cX12_keepsAhead 94 = .ok (.putfield 133, 3) := by decide +kernel
theorem dX12_keepsAhead_97 : decode cX12_keepsAhead 97 = .ok (.return_, 1) := by decide +kernel
theorem dX12_undo_0 : decode cX12_undo 0 = .ok (.aload_n 0, 1) := by decide +kernel
theorem dX12_undo_1 : decode cX12_undo 1 = .ok (.iconst 0, 1) := by decide +kernel
theorem dX12_undo_2 : decode cX12_undo 2 = .ok (.putfield 130, 3) := by decide +kernel
theorem dX12_undo_5 : decode cX12_undo 5 = .ok (.aload_n 0, 1) := by decide +kernel
theorem dX12_undo_6 : decode cX12_undo 6 = .ok (.getfield 133, 3) := by decide +kernel
theorem dX12_undo_9 : decode cX12_undo 9 = .ok (.ifCond .ne 5, 3) := by decide +kernel
theorem dX12_undo_12 : decode cX12_undo 12 = .ok (.iconst 0, 1) := by decide +kernel
theorem dX12_undo_13 : decode cX12_undo 13 = .ok (.ireturn, 1) := by decide +kernel
theorem dX12_undo_14 : decode cX12_undo 14 = .ok (.aload_n 0, 1) := by decide +kernel
theorem dX12_undo_15 : decode cX12_undo 15 = .ok (.aload_n 0, 1) := by decide +kernel
theorem dX12_undo_16 : decode cX12_undo 16 = .ok (.getfield 133, 3) := by decide +kernel
theorem dX12_undo_19 : decode cX12_undo 19 = .ok (.iconst 1, 1) := by decide +kernel
theorem dX12_undo_20 : decode cX12_undo 20 = .ok (.isub, 1) := by decide +kernel
theorem dX12_undo_21 : decode cX12_undo 21 = .ok (.putfield 133, 3) := by decide +kernel
theorem dX12_undo_24 : decode cX12_undo 24 = .ok (.iconst 0, 1) := by decide +kernel
theorem dX12_undo_25 : decode cX12_undo 25 = .ok (.istore_n 1, 1) := by decide +kernel
theorem dX12_undo_26 : decode cX12_undo 26 = .ok (.iload_n 1, 1) := by decide +kernel
theorem dX12_undo_27 : decode cX12_undo 27 = .ok (.bipush 66, 2) := by decide +kernel
theorem dX12_undo_29 : decode cX12_undo 29 = .ok (.if_icmp .ge 29, 3) := by decide +kernel
theorem dX12_undo_32 : decode cX12_undo 32 = .ok (.aload_n 0, 1) := by decide +kernel
theorem dX12_undo_33 : decode cX12_undo 33 = .ok (.getfield 7, 3) := by decide +kernel
theorem dX12_undo_36 : decode cX12_undo 36 = .ok (.iload_n 1, 1) := by decide +kernel
theorem dX12_undo_37 : decode cX12_undo 37 = .ok (.aload_n 0, 1) := by decide +kernel
theorem dX12_undo_38 : decode cX12_undo 38 = .ok (.getfield 13, 3) := by decide +kernel
theorem dX12_undo_41 : decode cX12_undo 41 = .ok (.bipush 66, 2) := by decide +kernel
theorem dX12_undo_43 : decode cX12_undo 43 = .ok (.aload_n 0, 1) := by decide +kernel
theorem dX12_undo_44 : decode cX12_undo 44 = .ok (.getfield 133, 3) := by decide +kernel
theorem dX12_undo_47 : decode cX12_undo 47 = .ok (.imul, 1) := by decide +kernel
theorem dX12_undo_48 : decode cX12_undo 48 = .ok (.iload_n 1, 1) := by decide +kernel
theorem dX12_undo_49 : decode cX12_undo 49 = .ok (.iadd, 1) := by decide +kernel
theorem dX12_undo_50 : decode cX12_undo 50 = .ok (.iaload, 1) := by decide +kernel
theorem dX12_undo_51 : decode cX12_undo 51 = .ok (.iastore, 1) := by decide +kernel
theorem dX12_undo_52 : decode cX12_undo 52 = .ok (.iinc 1 1, 3) := by decide +kernel
theorem dX12_undo_55 : decode cX12_undo 55 = .ok (.goto (-29), 3) := by decide +kernel
theorem dX12_undo_58 : decode cX12_undo 58 = .ok (.iconst 1, 1) := by decide +kernel
theorem dX12_undo_59 : decode cX12_undo 59 = .ok (.ireturn, 1) := by decide +kernel
theorem q_1401 : Cond.fieldLink RX12 13 "LampRoundModel" "rows" "[I" ∈ GW := inG 1401 (by decide +kernel) (by decide +kernel)
