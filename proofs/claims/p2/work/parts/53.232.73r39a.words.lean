theorem dX12_bestStep_0 : decode cX12_bestStep 0 = .ok (.iconst (-1), 1) := by decide +kernel
theorem dX12_bestStep_1 : decode cX12_bestStep 1 = .ok (.istore 4, 2) := by decide +kernel
theorem dX12_bestStep_3 : decode cX12_bestStep 3 = .ok (.iconst 0, 1) := by decide +kernel
theorem dX12_bestStep_4 : decode cX12_bestStep 4 = .ok (.istore 5, 2) := by decide +kernel
theorem dX12_bestStep_6 : decode cX12_bestStep 6 = .ok (.iload 5, 2) := by decide +kernel
theorem dX12_bestStep_8 : decode cX12_bestStep 8 = .ok (.aload_n 0, 1) := by decide +kernel
theorem dX12_bestStep_9 : decode cX12_bestStep 9 = .ok (.getfield 148, 3) := by decide +kernel
theorem dX12_bestStep_12 : decode cX12_bestStep 12 = .ok (.if_icmp .ge 50, 3) := by decide +kernel
theorem dX12_bestStep_15 : decode cX12_bestStep 15 = .ok (.aload_n 0, 1) := by decide +kernel
theorem dX12_bestStep_16 : decode cX12_bestStep 16 = .ok (.iload_n 2, 1) := by decide +kernel
theorem dX12_bestStep_17 : decode cX12_bestStep 17 = .ok (.iload 5, 2) := by decide +kernel
theorem dX12_bestStep_19 : decode cX12_bestStep 19 = .ok (.invokevirtual 377, 3) := by decide +kernel
theorem dX12_bestStep_22 : decode cX12_bestStep 22 = .ok (.ifCond .eq 34, 3) := by decide +kernel
theorem dX12_bestStep_25 : decode cX12_bestStep 25 = .ok (.iload 4, 2) := by decide +kernel
theorem dX12_bestStep_27 : decode cX12_bestStep 27 = .ok (.iconst (-1), 1) := by decide +kernel
theorem dX12_bestStep_28 : decode cX12_bestStep 28 = .ok (.if_icmp .eq 24, 3) := by decide +kernel
theorem dX12_bestStep_31 : decode cX12_bestStep 31 = .ok (.aload_n 0, 1) := by decide +kernel
theorem dX12_bestStep_32 : decode cX12_bestStep 32 = .ok (.iload_n 1, 1) := by decide +kernel
theorem dX12_bestStep_33 : decode cX12_bestStep 33 = .ok (.iload_n 2, 1) := by decide +kernel
theorem dX12_bestStep_34 : decode cX12_bestStep 34 = .ok (.iload 5, 2) := by decide +kernel
theorem dX12_bestStep_36 : decode cX12_bestStep 36 = .ok (.iload_n 3, 1) := by decide +kernel
theorem dX12_bestStep_37 : decode cX12_bestStep 37 = .ok (.invokevirtual 472, 3) := by decide +kernel
theorem dX12_bestStep_40 : decode cX12_bestStep 40 = .ok (.aload_n 0, 1) := by decide +kernel
theorem dX12_bestStep_41 : decode cX12_bestStep 41 = .ok (.iload_n 1, 1) := by decide +kernel
theorem dX12_bestStep_42 : decode cX12_bestStep 42 = .ok (.iload_n 2, 1) := by decide +kernel
theorem dX12_bestStep_43 : decode cX12_bestStep 43 = .ok (.iload 4, 2) := by decide +kernel
theorem dX12_bestStep_45 : decode cX12_bestStep 45 = .ok (.iload_n 3, 1) := by decide +kernel
theorem dX12_bestStep_46 : decode cX12_bestStep 46 = .ok (.invokevirtual 472, 3) := by decide +kernel
theorem dX12_bestStep_49 : decode cX12_bestStep 49 = .ok (.if_icmp .le 7, 3) := by decide +kernel
theorem dX12_bestStep_52 : decode cX12_bestStep 52 = .ok (.iload 5, 2) := by decide +kernel
theorem dX12_bestStep_54 : decode cX12_bestStep 54 = .ok (.istore 4, 2) := by decide +kernel
theorem dX12_bestStep_56 : decode cX12_bestStep 56 = .ok (.iinc 5 1, 3) := by decide +kernel
theorem dX12_bestStep_59 : decode cX12_bestStep 59 = .ok (.goto (-53), 3) := by decide +kernel
theorem dX12_bestStep_62 : decode cX12_bestStep 62 = .ok (.iload 4, 2) := by decide +kernel
theorem dX12_bestStep_64 : decode cX12_bestStep 64 = .ok (.ireturn, 1) := by decide +kernel
theorem dX12_byStep_0 : decode cX12_byStep 0 = .ok (.aload_n 0, 1) := by decide +kernel
theorem dX12_byStep_1 : decode cX12_byStep 1 = .ok (.iload_n 1, 1) := by decide +kernel
theorem dX12_byStep_2 : decode cX12_byStep 2 = .ok (.iload_n 2, 1) := by decide +kernel
theorem dX12_byStep_3 : decode cX12_byStep 3 = .ok (.iload_n 3, 1) := by decide +kernel
theorem dX12_byStep_4 : decode cX12_byStep 4 = .ok (.iload 4, 2) := by decide +kernel
theorem dX12_byStep_6 : decode cX12_byStep 6 = .ok (.invokevirtual 462, 3) := by decide +kernel
theorem dX12_byStep_9 : decode cX12_byStep 9 = .ok (.istore 5, 2) := by decide +kernel
theorem dX12_byStep_11 : decode cX12_byStep 11 = .ok (.sipush 1000, 3) := by decide +kernel
theorem dX12_byStep_14 : decode cX12_byStep 14 = .ok (.aload_n 0, 1) := by decide +kernel
theorem dX12_byStep_15 : decode cX12_byStep 15 = .ok (.iload 5, 2) := by decide +kernel
theorem dX12_byStep_17 : decode cX12_byStep 17 = .ok (.iload 4, 2) := by decide +kernel
theorem dX12_byStep_19 : decode cX12_byStep 19 = .ok (.iconst (-1), 1) := by decide +kernel
theorem dX12_byStep_20 : decode cX12_byStep 20 = .ok (.ixor, 1) := by decide +kernel
theorem dX12_byStep_21 : decode cX12_byStep 21 = .ok (.iand, 1) := by decide +kernel
theorem dX12_byStep_22 : decode cX12_byStep 22 = .ok (.invokevirtual 466, 3) := by decide +kernel
theorem dX12_byStep_25 : decode cX12_byStep 25 = .ok (.imul, 1) := by decide +kernel
theorem dX12_byStep_26 : decode cX12_byStep 26 = .ok (.aload_n 0, 1) := by decide +kernel
theorem dX12_byStep_27 : decode cX12_byStep 27 = .ok (.getfield 101, 3) := by decide +kernel
theorem dX12_byStep_30 : decode cX12_byStep 30 = .ok (.bipush 10, 2) := by decide +kernel
theorem dX12_byStep_32 : decode cX12_byStep 32 = .ok (.iload_n 2, 1) := by decide +kernel
theorem dX12_byStep_33 : decode cX12_byStep 33 = .ok (.imul, 1) := by decide +kernel
theorem dX12_byStep_34 : decode cX12_byStep 34 = .ok (.iload_n 3, 1) := by decide +kernel
theorem dX12_byStep_35 : decode cX12_byStep 35 = .ok (.iadd, 1) := by decide +kernel
theorem dX12_byStep_36 : decode cX12_byStep 36 = .ok (.iaload, 1) := by decide +kernel
theorem dX12_byStep_37 : decode cX12_byStep 37 = .ok (.isub, 1) := by decide +kernel
theorem dX12_byStep_38 : decode cX12_byStep 38 = .ok (.aload_n 0, 1) := by decide +kernel
theorem dX12_byStep_39 : decode cX12_byStep 39 = .ok (.getfield 105, 3) := by decide +kernel
theorem dX12_byStep_42 : decode cX12_byStep 42 = .ok (.aload_n 0, 1) := by decide +kernel
theorem dX12_byStep_43 : decode cX12_byStep 43 = .ok (.iload_n 1, 1) := by decide +kernel
theorem dX12_byStep_44 : decode cX12_byStep 44 = .ok (.iconst 1, 1) := by decide +kernel
theorem dX12_byStep_45 : decode cX12_byStep 45 = .ok (.iadd, 1) := by decide +kernel
theorem dX12_byStep_46 : decode cX12_byStep 46 = .ok (.iload_n 3, 1) := by decide +kernel
theorem dX12_byStep_47 : decode cX12_byStep 47 = .ok (.iload 5, 2) := by decide +kernel
theorem dX12_byStep_49 : decode cX12_byStep 49 = .ok (.invokevirtual 469, 3) := by decide +kernel
theorem dX12_byStep_52 : decode cX12_byStep 52 = .ok (.iaload, 1) := by decide +kernel
theorem dX12_byStep_53 : decode cX12_byStep 53 = .ok (.iadd, 1) := by decide +kernel
theorem dX12_byStep_54 : decode cX12_byStep 54 = .ok (.ireturn, 1) := by decide +kernel
theorem dX12_doneBy_0 : decode cX12_doneBy 0 = .ok (.iload_n 1, 1) := by decide +kernel
theorem dX12_doneBy_1 : decode cX12_doneBy 1 = .ok (.ifCond .ne 32, 3) := by decide +kernel
theorem dX12_doneBy_4 : decode cX12_doneBy 4 = .ok (.aload_n 0, 1) := by decide +kernel
theorem dX12_doneBy_5 : decode cX12_doneBy 5 = .ok (.getfield 7, 3) := by decide +kernel
theorem dX12_doneBy_8 : decode cX12_doneBy 8 = .ok (.bipush 36, 2) := by decide +kernel
theorem dX12_doneBy_10 : decode cX12_doneBy 10 = .ok (.iload_n 3, 1) := by decide +kernel
theorem dX12_doneBy_11 : decode cX12_doneBy 11 = .ok (.iadd, 1) := by decide +kernel
theorem dX12_doneBy_12 : decode cX12_doneBy 12 = .ok (.iaload, 1) := by decide +kernel
theorem dX12_doneBy_13 : decode cX12_doneBy 13 = .ok (.ifCond .le 16, 3) := by decide +kernel
theorem dX12_doneBy_16 : decode cX12_doneBy 16 = .ok (.aload_n 0, 1) := by decide +kernel
theorem dX12_doneBy_17 : decode cX12_doneBy 17 = .ok (.iload_n 3, 1) := by decide +kernel
theorem dX12_doneBy_18 : decode cX12_doneBy 18 = .ok (.invokevirtual 362, 3) := by decide +kernel
theorem dX12_doneBy_21 : decode cX12_doneBy 21 = .ok (.iconst 1, 1) := by decide +kernel
theorem dX12_doneBy_22 : decode cX12_doneBy 22 = .ok (.if_icmp .ne 7, 3) := by decide +kernel
theorem dX12_doneBy_25 : decode cX12_doneBy 25 = .ok (.iconst 1, 1) := by decide +kernel
theorem dX12_doneBy_26 : decode cX12_doneBy 26 = .ok (.goto 17, 3) := by decide +kernel
theorem dX12_doneBy_29 : decode cX12_doneBy 29 = .ok (.iconst 0, 1) := by decide +kernel
theorem dX12_doneBy_30 : decode cX12_doneBy 30 = .ok (.goto 13, 3) := by decide +kernel
theorem dX12_doneBy_33 : decode cX12_doneBy 33 = .ok (.iload_n 2, 1) := by decide +kernel
theorem dX12_doneBy_34 : decode cX12_doneBy 34 = .ok (.iload_n 3, 1) := by decide +kernel
theorem dX12_doneBy_35 : decode cX12_doneBy 35 = .ok (.if_icmp .ne 7, 3) := by decide +kernel
theorem dX12_doneBy_38 : decode cX12_doneBy 38 = .ok (.iconst 1, 1) := by decide +kernel
theorem dX12_doneBy_39 : decode cX12_doneBy 39 = .ok (.goto 4, 3) := by decide +kernel
theorem dX12_doneBy_42 : decode cX12_doneBy 42 = .ok (.iconst 0, 1) := by decide +kernel
theorem dX12_doneBy_43 : decode cX12_doneBy 43 = .ok (.istore 5, 2) := by decide +kernel
theorem dX12_doneBy_45 : decode cX12_doneBy 45 = .ok (.iload 4, 2) := by decide +kernel
theorem dX12_doneBy_47 : decode cX12_doneBy 47 = .ok (.istore 6, 2) := by decide +kernel
theorem dX12_doneBy_49 : decode cX12_doneBy 49 = .ok (.iconst 0, 1) := by decide +kernel
theorem dX12_doneBy_50 : decode cX12_doneBy 50 = .ok (.istore 7, 2) := by decide +kernel
theorem dX12_doneBy_52 : decode cX12_doneBy 52 = .ok (.iload 7, 2) := by decide +kernel
theorem dX12_doneBy_54 : decode cX12_doneBy 54 = .ok (.aload_n 0, 1) := by decide +kernel
theorem dX12_doneBy_55 : decode cX12_doneBy 55 = .ok (.getfield 324, 3) := by decide +kernel
theorem dX12_doneBy_58 : decode cX12_doneBy 58 = .ok (.if_icmp .ge 112, 3) := by decide +kernel
theorem dX12_doneBy_61 : decode cX12_doneBy 61 = .ok (.aload_n 0, 1) := by decide +kernel
theorem dX12_doneBy_62 : decode cX12_doneBy 62 = .ok (.iload 7, 2) := by decide +kernel
theorem dX12_doneBy_64 : decode cX12_doneBy 64 = .ok (.iconst 1, 1) := by decide +kernel
theorem dX12_doneBy_65 : decode cX12_doneBy 65 = .ok (.invokevirtual 356, 3) := by decide +kernel
theorem dX12_doneBy_68 : decode cX12_doneBy 68 = .ok (.iload_n 3, 1) := by decide +kernel
theorem dX12_doneBy_69 : decode cX12_doneBy 69 = .ok (.if_icmp .ne 62, 3) := by decide +kernel
theorem dX12_doneBy_72 : decode cX12_doneBy 72 = .ok (.aload_n 0, 1) := by decide +kernel
theorem dX12_doneBy_73 : decode cX12_doneBy 73 = .ok (.getfield 7, 3) := by decide +kernel
theorem dX12_doneBy_76 : decode cX12_doneBy 76 = .ok (.bipush 46, 2) := by decide +kernel
theorem dX12_doneBy_78 : decode cX12_doneBy 78 = .ok (.iload 7, 2) := by decide +kernel
theorem dX12_doneBy_80 : decode cX12_doneBy 80 = .ok (.iadd, 1) := by decide +kernel
theorem dX12_doneBy_81 : decode cX12_doneBy 81 = .ok (.iaload, 1) := by decide +kernel
theorem dX12_doneBy_82 : decode cX12_doneBy 82 = .ok (.ifCond .ne 49, 3) := by decide +kernel
theorem dX12_doneBy_85 : decode cX12_doneBy 85 = .ok (.aload_n 0, 1) := by decide +kernel
theorem dX12_doneBy_86 : decode cX12_doneBy 86 = .ok (.getfield 7, 3) := by decide +kernel
theorem dX12_doneBy_89 : decode cX12_doneBy 89 = .ok (.bipush 56, 2) := by decide +kernel
theorem dX12_doneBy_91 : decode cX12_doneBy 91 = .ok (.iload 7, 2) := by decide +kernel
theorem dX12_doneBy_93 : decode cX12_doneBy 93 = .ok (.iadd, 1) := by decide +kernel
theorem dX12_doneBy_94 : decode cX12_doneBy 94 = .ok (.iaload, 1) := by decide +kernel
theorem dX12_doneBy_95 : decode cX12_doneBy 95 = .ok (.ifCond .ne 36, 3) := by decide +kernel
theorem dX12_doneBy_98 : decode cX12_doneBy 98 = .ok (.aload_n 0, 1) := by decide +kernel
theorem dX12_doneBy_99 : decode cX12_doneBy 99 = .ok (.aload_n 0, 1) := by decide +kernel
theorem dX12_doneBy_100 : decode cX12_doneBy 100 = .ok (.getfield 7, 3) := by decide +kernel
theorem dX12_doneBy_103 : decode cX12_doneBy 103 = .ok (.iconst 0, 1) := by decide +kernel
theorem dX12_doneBy_104 : decode cX12_doneBy 104 = .ok (.iaload, 1) := by decide +kernel
theorem dX12_doneBy_105 : decode cX12_doneBy 105 = .ok (.iload_n 1, 1) := by decide +kernel
theorem dX12_doneBy_106 : decode cX12_doneBy 106 = .ok (.iadd, 1) := by decide +kernel
theorem dX12_doneBy_107 : decode cX12_doneBy 107 = .ok (.aload_n 0, 1) := by decide +kernel
theorem dX12_doneBy_108 : decode cX12_doneBy 108 = .ok (.iload 7, 2) := by decide +kernel
theorem dX12_doneBy_110 : decode cX12_doneBy 110 = .ok (.iconst 2, 1) := by decide +kernel
theorem dX12_doneBy_111 : decode cX12_doneBy 111 = .ok (.invokevirtual 356, 3) := by decide +kernel
theorem dX12_doneBy_114 : decode cX12_doneBy 114 = .ok (.aload_n 0, 1) := by decide +kernel
theorem dX12_doneBy_115 : decode cX12_doneBy 115 = .ok (.iload 7, 2) := by decide +kernel
theorem dX12_doneBy_117 : decode cX12_doneBy 117 = .ok (.iconst 3, 1) := by decide +kernel
theorem dX12_doneBy_118 : decode cX12_doneBy 118 = .ok (.invokevirtual 356, 3) := by decide +kernel
theorem dX12_doneBy_121 : decode cX12_doneBy 121 = .ok (.invokevirtual 151, 3) := by decide +kernel
theorem dX12_doneBy_124 : decode cX12_doneBy 124 = .ok (.ifCond .eq 7, 3) := by decide +kernel
theorem dX12_doneBy_127 : decode cX12_doneBy 127 = .ok (.iconst 1, 1) := by decide +kernel
theorem dX12_doneBy_128 : decode cX12_doneBy 128 = .ok (.goto 4, 3) := by decide +kernel
theorem dX12_doneBy_131 : decode cX12_doneBy 131 = .ok (.iconst 0, 1) := by decide +kernel
theorem dX12_doneBy_132 : decode cX12_doneBy 132 = .ok (.istore 8, 2) := by decide +kernel
theorem dX12_doneBy_134 : decode cX12_doneBy 134 = .ok (.iload 8, 2) := by decide +kernel
theorem dX12_doneBy_136 : decode cX12_doneBy 136 = .ok (.ifCond .eq 28, 3) := by decide +kernel
theorem dX12_doneBy_139 : decode cX12_doneBy 139 = .ok (.aload_n 0, 1) := by decide +kernel
theorem dX12_doneBy_140 : decode cX12_doneBy 140 = .ok (.iload 7, 2) := by decide +kernel
theorem dX12_doneBy_142 : decode cX12_doneBy 142 = .ok (.iconst 0, 1) := by decide +kernel
theorem dX12_doneBy_143 : decode cX12_doneBy 143 = .ok (.invokevirtual 356, 3) := by decide +kernel
theorem dX12_doneBy_146 : decode cX12_doneBy 146 = .ok (.iconst 3, 1) := by decide +kernel
theorem dX12_doneBy_147 : decode cX12_doneBy 147 = .ok (.if_icmp .ne 8, 3) := by decide +kernel
theorem dX12_doneBy_150 : decode cX12_doneBy 150 = .ok (.iload 5, 2) := by decide +kernel
theorem dX12_doneBy_152 : decode cX12_doneBy 152 = .ok (.ifCond .eq 12, 3) := by decide +kernel
theorem dX12_doneBy_155 : decode cX12_doneBy 155 = .ok (.iload 6, 2) := by decide +kernel
theorem dX12_doneBy_157 : decode cX12_doneBy 157 = .ok (.iconst 1, 1) := by decide +kernel
theorem dX12_doneBy_158 : decode cX12_doneBy 158 = .ok (.iload 7, 2) := by decide +kernel
theorem dX12_doneBy_160 : decode cX12_doneBy 160 = .ok (.ishl, 1) := by decide +kernel
theorem dX12_doneBy_161 : decode cX12_doneBy 161 = .ok (.ior, 1) := by decide +kernel
theorem dX12_doneBy_162 : decode cX12_doneBy 162 = .ok (.istore 6, 2) := by decide +kernel
theorem dX12_doneBy_164 : decode cX12_doneBy 164 = .ok (.iinc 7 1, 3) := by decide +kernel
theorem dX12_doneBy_167 : decode cX12_doneBy 167 = .ok (.goto (-115), 3) := by decide +kernel
theorem dX12_doneBy_170 : decode cX12_doneBy 170 = .ok (.iload 6, 2) := by decide +kernel
theorem dX12_doneBy_172 : decode cX12_doneBy 172 = .ok (.ireturn, 1) := by decide +kernel
theorem dX12_findsPairs_0 : decode cX12_findsPairs 0 = .ok (.aload_n 0, 1) := by decide +kernel
theorem dX12_findsPairs_1 : decode cX12_findsPairs 1 = .ok (.getfield 111, 3) := by decide +kernel
theorem dX12_findsPairs_4 : decode cX12_findsPairs 4 = .ok (.iconst 0, 1) := by decide +kernel
theorem dX12_findsPairs_5 : decode cX12_findsPairs 5 = .ok (.iconst 0, 1) := by decide +kernel
theorem dX12_findsPairs_6 : decode cX12_findsPairs 6 = .ok (.iastore, 1) := by decide +kernel
theorem dX12_findsPairs_7 : decode cX12_findsPairs 7 = .ok (.iconst 1, 1) := by decide +kernel
theorem dX12_findsPairs_8 : decode cX12_findsPairs 8 = .ok (.istore_n 1, 1) := by decide +kernel
theorem dX12_findsPairs_9 : decode cX12_findsPairs 9 = .ok (.iload_n 1, 1) := by decide +kernel
theorem dX12_findsPairs_10 : decode cX12_findsPairs 10 = .ok (.iconst 1, 1) := by decide +kernel
theorem dX12_findsPairs_11 : decode cX12_findsPairs 11 = .ok (.aload_n 0, 1) := by decide +kernel
theorem dX12_findsPairs_12 : decode cX12_findsPairs 12 = .ok (.getfield 148, 3) := by decide +kernel
theorem dX12_findsPairs_15 : decode cX12_findsPairs 15 = .ok (.ishl, 1) := by decide +kernel
theorem dX12_findsPairs_16 : decode cX12_findsPairs 16 = .ok (.if_icmp .ge 92, 3) := by decide +kernel
theorem dX12_findsPairs_19 : decode cX12_findsPairs 19 = .ok (.aload_n 0, 1) := by decide +kernel
theorem dX12_findsPairs_20 : decode cX12_findsPairs 20 = .ok (.iload_n 1, 1) := by decide +kernel
theorem dX12_findsPairs_21 : decode cX12_findsPairs 21 = .ok (.invokevirtual 484, 3) := by decide +kernel
theorem dX12_findsPairs_24 : decode cX12_findsPairs 24 = .ok (.istore_n 2, 1) := by decide +kernel
theorem dX12_findsPairs_25 : decode cX12_findsPairs 25 = .ok (.aload_n 0, 1) := by decide +kernel
theorem dX12_findsPairs_26 : decode cX12_findsPairs 26 = .ok (.getfield 111, 3) := by decide +kernel
theorem dX12_findsPairs_29 : decode cX12_findsPairs 29 = .ok (.iload_n 1, 1) := by decide +kernel
theorem dX12_findsPairs_30 : decode cX12_findsPairs 30 = .ok (.iload_n 1, 1) := by decide +kernel
theorem dX12_findsPairs_31 : decode cX12_findsPairs 31 = .ok (.iconst 1, 1) := by decide +kernel
theorem dX12_findsPairs_32 : decode cX12_findsPairs 32 = .ok (.isub, 1) := by decide +kernel
theorem dX12_findsPairs_33 : decode cX12_findsPairs 33 = .ok (.iand, 1) := by decide +kernel
theorem dX12_findsPairs_34 : decode cX12_findsPairs 34 = .ok (.iaload, 1) := by decide +kernel
theorem dX12_findsPairs_35 : decode cX12_findsPairs 35 = .ok (.istore_n 3, 1) := by decide +kernel
theorem dX12_findsPairs_36 : decode cX12_findsPairs 36 = .ok (.iload_n 2, 1) := by decide +kernel
theorem dX12_findsPairs_37 : decode cX12_findsPairs 37 = .ok (.iconst 1, 1) := by decide +kernel
theorem dX12_findsPairs_38 : decode cX12_findsPairs 38 = .ok (.iadd, 1) := by decide +kernel
theorem dX12_findsPairs_39 : decode cX12_findsPairs 39 = .ok (.istore 4, 2) := by decide +kernel
theorem dX12_findsPairs_41 : decode cX12_findsPairs 41 = .ok (.iload 4, 2) := by decide +kernel
theorem dX12_findsPairs_43 : decode cX12_findsPairs 43 = .ok (.aload_n 0, 1) := by decide +kernel
theorem dX12_findsPairs_44 : decode cX12_findsPairs 44 = .ok (.getfield 148, 3) := by decide +kernel
theorem dX12_findsPairs_47 : decode cX12_findsPairs 47 = .ok (.if_icmp .ge 48, 3) := by decide +kernel
theorem dX12_findsPairs_50 : decode cX12_findsPairs 50 = .ok (.iload_n 1, 1) := by decide +kernel
theorem dX12_findsPairs_51 : decode cX12_findsPairs 51 = .ok (.iload 4, 2) := by decide +kernel
theorem dX12_findsPairs_53 : decode cX12_findsPairs 53 = .ok (.ishr, 1) := by decide +kernel
theorem dX12_findsPairs_54 : decode cX12_findsPairs 54 = .ok (.iconst 1, 1) := by decide +kernel
theorem dX12_findsPairs_55 : decode cX12_findsPairs 55 = .ok (.iand, 1) := by decide +kernel
theorem dX12_findsPairs_56 : decode cX12_findsPairs 56 = .ok (.iconst 1, 1) := by decide +kernel
theorem dX12_findsPairs_57 : decode cX12_findsPairs 57 = .ok (.if_icmp .ne 32, 3) := by decide +kernel
theorem dX12_findsPairs_60 : decode cX12_findsPairs 60 = .ok (.aload_n 0, 1) := by decide +kernel
theorem dX12_findsPairs_61 : decode cX12_findsPairs 61 = .ok (.getfield 31, 3) := by decide +kernel
theorem dX12_findsPairs_64 : decode cX12_findsPairs 64 = .ok (.iload_n 2, 1) := by decide +kernel
theorem dX12_findsPairs_65 : decode cX12_findsPairs 65 = .ok (.iaload, 1) := by decide +kernel
theorem dX12_findsPairs_66 : decode cX12_findsPairs 66 = .ok (.iload 4, 2) := by decide +kernel
theorem dX12_findsPairs_68 : decode cX12_findsPairs 68 = .ok (.ishr, 1) := by decide +kernel
theorem dX12_findsPairs_69 : decode cX12_findsPairs 69 = .ok (.iconst 1, 1) := by decide +kernel
theorem dX12_findsPairs_70 : decode cX12_findsPairs 70 = .ok (.iand, 1) := by decide +kernel
theorem dX12_findsPairs_71 : decode cX12_findsPairs 71 = .ok (.iconst 1, 1) := by decide +kernel
theorem dX12_findsPairs_72 : decode cX12_findsPairs 72 = .ok (.if_icmp .ne 17, 3) := by decide +kernel
theorem dX12_findsPairs_75 : decode cX12_findsPairs 75 = .ok (.aload_n 0, 1) := by decide +kernel
theorem dX12_findsPairs_76 : decode cX12_findsPairs 76 = .ok (.iload_n 3, 1) := by decide +kernel
theorem dX12_findsPairs_77 : decode cX12_findsPairs 77 = .ok (.aload_n 0, 1) := by decide +kernel
theorem dX12_findsPairs_78 : decode cX12_findsPairs 78 = .ok (.iload_n 1, 1) := by decide +kernel
theorem dX12_findsPairs_79 : decode cX12_findsPairs 79 = .ok (.iload_n 2, 1) := by decide +kernel
theorem dX12_findsPairs_80 : decode cX12_findsPairs 80 = .ok (.iload 4, 2) := by decide +kernel
theorem dX12_findsPairs_82 : decode cX12_findsPairs 82 = .ok (.invokevirtual 487, 3) := by decide +kernel
theorem dX12_findsPairs_85 : decode cX12_findsPairs 85 = .ok (.invokevirtual 490, 3) := by decide +kernel
theorem dX12_findsPairs_88 : decode cX12_findsPairs 88 = .ok (.istore_n 3, 1) := by decide +kernel
theorem dX12_findsPairs_89 : decode cX12_findsPairs 89 = .ok (.iinc 4 1, 3) := by decide +kernel
theorem dX12_findsPairs_92 : decode cX12_findsPairs 92 = .ok (.goto (-51), 3) := by decide +kernel
theorem dX12_findsPairs_95 : decode cX12_findsPairs 95 = .ok (.aload_n 0, 1) := by decide +kernel
theorem dX12_findsPairs_96 : decode cX12_findsPairs 96 = .ok (.getfield 111, 3) := by decide +kernel
theorem dX12_findsPairs_99 : decode cX12_findsPairs 99 = .ok (.iload_n 1, 1) := by decide +kernel
theorem dX12_findsPairs_100 : decode cX12_findsPairs 100 = .ok (.iload_n 3, 1) := by decide +kernel
theorem dX12_findsPairs_101 : decode cX12_findsPairs 101 = .ok (.iastore, 1) := by decide +kernel
theorem dX12_findsPairs_102 : decode cX12_findsPairs 102 = .ok (.iinc 1 1, 3) := by decide +kernel
theorem dX12_findsPairs_105 : decode cX12_findsPairs 105 = .ok (.goto (-96), 3) := by decide +kernel
theorem dX12_findsPairs_108 : decode cX12_findsPairs 108 = .ok (.return_, 1) := by decide +kernel
theorem dX12_findsPlans_0 : decode cX12_findsPlans 0 = .ok (.iconst 0, 1) := by decide +kernel
theorem dX12_findsPlans_1 : decode cX12_findsPlans 1 = .ok (.istore_n 2, 1) := by decide +kernel
theorem dX12_findsPlans_2 : decode cX12_findsPlans 2 = .ok (.iload_n 2, 1) := by decide +kernel
theorem dX12_findsPlans_3 : decode cX12_findsPlans 3 = .ok (.aload_n 0, 1) := by decide +kernel
theorem dX12_findsPlans_4 : decode cX12_findsPlans 4 = .ok (.getfield 148, 3) := by decide +kernel
theorem dX12_findsPlans_7 : decode cX12_findsPlans 7 = .ok (.if_icmp .ge 40, 3) := by decide +kernel
theorem dX12_findsPlans_10 : decode cX12_findsPlans 10 = .ok (.iconst 0, 1) := by decide +kernel
theorem dX12_findsPlans_11 : decode cX12_findsPlans 11 = .ok (.istore_n 3, 1) := by decide +kernel
theorem dX12_findsPlans_12 : decode cX12_findsPlans 12 = .ok (.iload_n 3, 1) := by decide +kernel
theorem dX12_findsPlans_13 : decode cX12_findsPlans 13 = .ok (.iconst 1, 1) := by decide +kernel
theorem dX12_findsPlans_14 : decode cX12_findsPlans 14 = .ok (.aload_n 0, 1) := by decide +kernel
theorem dX12_findsPlans_15 : decode cX12_findsPlans 15 = .ok (.getfield 324, 3) := by decide +kernel
theorem dX12_findsPlans_18 : decode cX12_findsPlans 18 = .ok (.ishl, 1) := by decide +kernel
theorem dX12_findsPlans_19 : decode cX12_findsPlans 19 = .ok (.if_icmp .ge 22, 3) := by decide +kernel
theorem dX12_findsPlans_22 : decode cX12_findsPlans 22 = .ok (.aload_n 0, 1) := by decide +kernel
theorem dX12_findsPlans_23 : decode cX12_findsPlans 23 = .ok (.getfield 105, 3) := by decide +kernel
theorem dX12_findsPlans_26 : decode cX12_findsPlans 26 = .ok (.aload_n 0, 1) := by decide +kernel
theorem dX12_findsPlans_27 : decode cX12_findsPlans 27 = .ok (.iload_n 1, 1) := by decide +kernel
theorem dX12_findsPlans_28 : decode cX12_findsPlans 28 = .ok (.iload_n 2, 1) := by decide +kernel
theorem dX12_findsPlans_29 : decode cX12_findsPlans 29 = .ok (.iload_n 3, 1) := by decide +kernel
theorem dX12_findsPlans_30 : decode cX12_findsPlans 30 = .ok (.invokevirtual 469, 3) := by decide +kernel
theorem dX12_findsPlans_33 : decode cX12_findsPlans 33 = .ok (.iconst 0, 1) := by decide +kernel
theorem dX12_findsPlans_34 : decode cX12_findsPlans 34 = .ok (.iastore, 1) := by decide +kernel
theorem dX12_findsPlans_35 : decode cX12_findsPlans 35 = .ok (.iinc 3 1, 3) := by decide +kernel
theorem dX12_findsPlans_38 : decode cX12_findsPlans 38 = .ok (.goto (-26), 3) := by decide +kernel
theorem dX12_findsPlans_41 : decode cX12_findsPlans 41 = .ok (.iinc 2 1, 3) := by decide +kernel
theorem dX12_findsPlans_44 : decode cX12_findsPlans 44 = .ok (.goto (-42), 3) := by decide +kernel
theorem dX12_findsPlans_47 : decode cX12_findsPlans 47 = .ok (.iload_n 1, 1) := by decide +kernel
theorem dX12_findsPlans_48 : decode cX12_findsPlans 48 = .ok (.iconst 1, 1) := by decide +kernel
theorem dX12_findsPlans_49 : decode cX12_findsPlans 49 = .ok (.isub, 1) := by decide +kernel
theorem dX12_findsPlans_50 : decode cX12_findsPlans 50 = .ok (.istore_n 2, 1) := by decide +kernel
theorem dX12_findsPlans_51 : decode cX12_findsPlans 51 = .ok (.iload_n 2, 1) := by decide +kernel
theorem dX12_findsPlans_52 : decode cX12_findsPlans 52 = .ok (.ifCond .lt 100, 3) := by decide +kernel
theorem dX12_findsPlans_55 : decode cX12_findsPlans 55 = .ok (.iconst 0, 1) := by decide +kernel
theorem dX12_findsPlans_56 : decode cX12_findsPlans 56 = .ok (.istore_n 3, 1) := by decide +kernel
theorem dX12_findsPlans_57 : decode cX12_findsPlans 57 = .ok (.iload_n 3, 1) := by decide +kernel
theorem dX12_findsPlans_58 : decode cX12_findsPlans 58 = .ok (.aload_n 0, 1) := by decide +kernel
theorem dX12_findsPlans_59 : decode cX12_findsPlans 59 = .ok (.getfield 148, 3) := by decide +kernel
theorem dX12_findsPlans_62 : decode cX12_findsPlans 62 = .ok (.if_icmp .ge 84, 3) := by decide +kernel
theorem dX12_findsPlans_65 : decode cX12_findsPlans 65 = .ok (.iload_n 2, 1) := by decide +kernel
theorem dX12_findsPlans_66 : decode cX12_findsPlans 66 = .ok (.ifCond .ne 16, 3) := by decide +kernel
theorem dX12_findsPlans_69 : decode cX12_findsPlans 69 = .ok (.iload_n 3, 1) := by decide +kernel
theorem dX12_findsPlans_70 : decode cX12_findsPlans 70 = .ok (.aload_n 0, 1) := by decide +kernel
theorem dX12_findsPlans_71 : decode cX12_findsPlans 71 = .ok (.getfield 7, 3) := by decide +kernel
theorem dX12_findsPlans_74 : decode cX12_findsPlans 74 = .ok (.iconst 3, 1) := by decide +kernel
theorem dX12_findsPlans_75 : decode cX12_findsPlans 75 = .ok (.iaload, 1) := by decide +kernel
theorem dX12_findsPlans_76 : decode cX12_findsPlans 76 = .ok (.if_icmp .eq 6, 3) := by decide +kernel
theorem dX12_findsPlans_79 : decode cX12_findsPlans 79 = .ok (.goto 61, 3) := by decide +kernel
theorem dX12_findsPlans_82 : decode cX12_findsPlans 82 = .ok (.iconst 0, 1) := by decide +kernel
theorem dX12_findsPlans_83 : decode cX12_findsPlans 83 = .ok (.istore 4, 2) := by decide +kernel
theorem dX12_findsPlans_85 : decode cX12_findsPlans 85 = .ok (.iload 4, 2) := by decide +kernel
theorem dX12_findsPlans_87 : decode cX12_findsPlans 87 = .ok (.iconst 1, 1) := by decide +kernel
theorem dX12_findsPlans_88 : decode cX12_findsPlans 88 = .ok (.aload_n 0, 1) := by decide +kernel
theorem dX12_findsPlans_89 : decode cX12_findsPlans 89 = .ok (.getfield 324, 3) := by decide +kernel
theorem dX12_findsPlans_92 : decode cX12_findsPlans 92 = .ok (.ishl, 1) := by decide +kernel
theorem dX12_findsPlans_93 : decode cX12_findsPlans 93 = .ok (.if_icmp .ge 47, 3) := by decide +kernel
theorem dX12_findsPlans_96 : decode cX12_findsPlans 96 = .ok (.iload_n 2, 1) := by decide +kernel
theorem dX12_findsPlans_97 : decode cX12_findsPlans 97 = .ok (.ifCond .gt 8, 3) := by decide +kernel
theorem dX12_findsPlans_100 : decode cX12_findsPlans 100 = .ok (.iload 4, 2) := by decide +kernel
theorem dX12_findsPlans_102 : decode cX12_findsPlans 102 = .ok (.ifCond .ne 32, 3) := by decide +kernel
theorem dX12_findsPlans_105 : decode cX12_findsPlans 105 = .ok (.aload_n 0, 1) := by decide +kernel
theorem dX12_findsPlans_106 : decode cX12_findsPlans 106 = .ok (.getfield 105, 3) := by decide +kernel
theorem dX12_findsPlans_109 : decode cX12_findsPlans 109 = .ok (.aload_n 0, 1) := by decide +kernel
theorem dX12_findsPlans_110 : decode cX12_findsPlans 110 = .ok (.iload_n 2, 1) := by decide +kernel
theorem dX12_findsPlans_111 : decode cX12_findsPlans 111 = .ok (.iload_n 3, 1) := by decide +kernel
theorem dX12_findsPlans_112 : decode cX12_findsPlans 112 = .ok (.iload 4, 2) := by decide +kernel
theorem dX12_findsPlans_114 : decode cX12_findsPlans 114 = .ok (.invokevirtual 469, 3) := by decide +kernel
theorem dX12_findsPlans_117 : decode cX12_findsPlans 117 = .ok (.aload_n 0, 1) := by decide +kernel
theorem dX12_findsPlans_118 : decode cX12_findsPlans 118 = .ok (.iload_n 2, 1) := by decide +kernel
theorem dX12_findsPlans_119 : decode cX12_findsPlans 119 = .ok (.iload_n 3, 1) := by decide +kernel
theorem dX12_findsPlans_120 : decode cX12_findsPlans 120 = .ok (.aload_n 0, 1) := by decide +kernel
theorem dX12_findsPlans_121 : decode cX12_findsPlans 121 = .ok (.iload_n 2, 1) := by decide +kernel
theorem dX12_findsPlans_122 : decode cX12_findsPlans 122 = .ok (.iload_n 3, 1) := by decide +kernel
theorem dX12_findsPlans_123 : decode cX12_findsPlans 123 = .ok (.iload 4, 2) := by decide +kernel
theorem dX12_findsPlans_125 : decode cX12_findsPlans 125 = .ok (.invokevirtual 475, 3) := by decide +kernel
theorem dX12_findsPlans_128 : decode cX12_findsPlans 128 = .ok (.iload 4, 2) := by decide +kernel
theorem dX12_findsPlans_130 : decode cX12_findsPlans 130 = .ok (.invokevirtual 472, 3) := by decide +kernel
theorem dX12_findsPlans_133 : decode cX12_findsPlans 133 = .ok (.iastore, 1) := by decide +kernel
theorem dX12_findsPlans_134 : decode cX12_findsPlans 134 = .ok (.iinc 4 1, 3) := by decide +kernel
theorem dX12_findsPlans_137 : decode cX12_findsPlans 137 = .ok (.goto (-52), 3) := by decide +kernel
theorem dX12_findsPlans_140 : decode cX12_findsPlans 140 = .ok (.iinc 3 1, 3) := by decide +kernel
theorem dX12_findsPlans_143 : decode cX12_findsPlans 143 = .ok (.goto (-86), 3) := by decide +kernel
theorem dX12_findsPlans_146 : decode cX12_findsPlans 146 = .ok (.iinc 2 (-1), 3) := by decide +kernel
theorem dX12_findsPlans_149 : decode cX12_findsPlans 149 = .ok (.goto (-98), 3) := by decide +kernel
theorem dX12_findsPlans_152 : decode cX12_findsPlans 152 = .ok (.return_, 1) := by decide +kernel
theorem dX12_lowest_0 : decode cX12_lowest 0 = .ok (.iconst 0, 1) := by decide +kernel
theorem dX12_lowest_1 : decode cX12_lowest 1 = .ok (.istore_n 2, 1) := by decide +kernel
theorem dX12_lowest_2 : decode cX12_lowest 2 = .ok (.iload_n 1, 1) := by decide +kernel
theorem dX12_lowest_3 : decode cX12_lowest 3 = .ok (.iload_n 2, 1) := by decide +kernel
theorem dX12_lowest_4 : decode cX12_lowest 4 = .ok (.ishr, 1) := by decide +kernel
theorem dX12_lowest_5 : decode cX12_lowest 5 = .ok (.iconst 1, 1) := by decide +kernel
theorem dX12_lowest_6 : decode cX12_lowest 6 = .ok (.iand, 1) := by decide +kernel
theorem dX12_lowest_7 : decode cX12_lowest 7 = .ok (.ifCond .ne 10, 3) := by decide +kernel
theorem dX12_lowest_10 : decode cX12_lowest 10 = .ok (.iload_n 2, 1) := by decide +kernel
theorem dX12_lowest_11 : decode cX12_lowest 11 = .ok (.iconst 1, 1) := by decide +kernel
theorem dX12_lowest_12 : decode cX12_lowest 12 = .ok (.iadd, 1) := by decide +kernel
theorem dX12_lowest_13 : decode cX12_lowest 13 = .ok (.istore_n 2, 1) := by decide +kernel
theorem dX12_lowest_14 : decode cX12_lowest 14 = .ok (.goto (-12), 3) := by decide +kernel
theorem dX12_lowest_17 : decode cX12_lowest 17 = .ok (.iload_n 2, 1) := by decide +kernel
theorem dX12_lowest_18 : decode cX12_lowest 18 = .ok (.ireturn, 1) := by decide +kernel
theorem dX12_mateOf_0 : decode cX12_mateOf 0 = .ok (.aload_n 0, 1) := by decide +kernel
theorem dX12_mateOf_1 : decode cX12_mateOf 1 = .ok (.iload_n 1, 1) := by decide +kernel
theorem dX12_mateOf_2 : decode cX12_mateOf 2 = .ok (.invokevirtual 484, 3) := by decide +kernel
theorem dX12_mateOf_5 : decode cX12_mateOf 5 = .ok (.istore_n 2, 1) := by decide +kernel
theorem dX12_mateOf_6 : decode cX12_mateOf 6 = .ok (.iload_n 2, 1) := by decide +kernel
theorem dX12_mateOf_7 : decode cX12_mateOf 7 = .ok (.iconst 1, 1) := by decide +kernel
theorem dX12_mateOf_8 : decode cX12_mateOf 8 = .ok (.iadd, 1) := by decide +kernel
theorem dX12_mateOf_9 : decode cX12_mateOf 9 = .ok (.istore_n 3, 1) := by decide +kernel
theorem dX12_mateOf_10 : decode cX12_mateOf 10 = .ok (.iload_n 3, 1) := by decide +kernel
theorem dX12_mateOf_11 : decode cX12_mateOf 11 = .ok (.aload_n 0, 1) := by decide +kernel
theorem dX12_mateOf_12 : decode cX12_mateOf 12 = .ok (.getfield 148, 3) := by decide +kernel
theorem dX12_mateOf_15 : decode cX12_mateOf 15 = .ok (.if_icmp .ge 50, 3) := by decide +kernel
theorem dX12_mateOf_18 : decode cX12_mateOf 18 = .ok (.iload_n 1, 1) := by decide +kernel
theorem dX12_mateOf_19 : decode cX12_mateOf 19 = .ok (.iload_n 3, 1) := by decide +kernel
theorem dX12_mateOf_20 : decode cX12_mateOf 20 = .ok (.ishr, 1) := by decide +kernel
theorem dX12_mateOf_21 : decode cX12_mateOf 21 = .ok (.iconst 1, 1) := by decide +kernel
theorem dX12_mateOf_22 : decode cX12_mateOf 22 = .ok (.iand, 1) := by decide +kernel
theorem dX12_mateOf_23 : decode cX12_mateOf 23 = .ok (.iconst 1, 1) := by decide +kernel
theorem dX12_mateOf_24 : decode cX12_mateOf 24 = .ok (.if_icmp .ne 35, 3) := by decide +kernel
theorem dX12_mateOf_27 : decode cX12_mateOf 27 = .ok (.aload_n 0, 1) := by decide +kernel
theorem dX12_mateOf_28 : decode cX12_mateOf 28 = .ok (.getfield 31, 3) := by decide +kernel
theorem dX12_mateOf_31 : decode cX12_mateOf 31 = .ok (.iload_n 2, 1) := by decide +kernel
theorem dX12_mateOf_32 : decode cX12_mateOf 32 = .ok (.iaload, 1) := by decide +kernel
theorem dX12_mateOf_33 : decode cX12_mateOf 33 = .ok (.iload_n 3, 1) := by decide +kernel
theorem dX12_mateOf_34 : decode cX12_mateOf 34 = .ok (.ishr, 1) := by decide +kernel
theorem dX12_mateOf_35 : decode cX12_mateOf 35 = .ok (.iconst 1, 1) := by decide +kernel
theorem dX12_mateOf_36 : decode cX12_mateOf 36 = .ok (.iand, 1) := by decide +kernel
theorem dX12_mateOf_37 : decode cX12_mateOf 37 = .ok (.iconst 1, 1) := by decide +kernel
theorem dX12_mateOf_38 : decode cX12_mateOf 38 = .ok (.if_icmp .ne 21, 3) := by decide +kernel
theorem dX12_mateOf_41 : decode cX12_mateOf 41 = .ok (.aload_n 0, 1) := by decide +kernel
theorem dX12_mateOf_42 : decode cX12_mateOf 42 = .ok (.iload_n 1, 1) := by decide +kernel
theorem dX12_mateOf_43 : decode cX12_mateOf 43 = .ok (.iload_n 2, 1) := by decide +kernel
theorem dX12_mateOf_44 : decode cX12_mateOf 44 = .ok (.iload_n 3, 1) := by decide +kernel
theorem dX12_mateOf_45 : decode cX12_mateOf 45 = .ok (.invokevirtual 487, 3) := by decide +kernel
theorem dX12_mateOf_48 : decode cX12_mateOf 48 = .ok (.aload_n 0, 1) := by decide +kernel
theorem dX12_mateOf_49 : decode cX12_mateOf 49 = .ok (.getfield 111, 3) := by decide +kernel
theorem dX12_mateOf_52 : decode cX12_mateOf 52 = .ok (.iload_n 1, 1) := by decide +kernel
theorem dX12_mateOf_53 : decode cX12_mateOf 53 = .ok (.iaload, 1) := by decide +kernel
theorem dX12_mateOf_54 : decode cX12_mateOf 54 = .ok (.if_icmp .ne 5, 3) := by decide +kernel
theorem dX12_mateOf_57 : decode cX12_mateOf 57 = .ok (.iload_n 3, 1) := by decide +kernel
theorem dX12_mateOf_58 : decode cX12_mateOf 58 = .ok (.ireturn, 1) := by decide +kernel
theorem dX12_mateOf_59 : decode cX12_mateOf 59 = .ok (.iinc 3 1, 3) := by decide +kernel
theorem dX12_mateOf_62 : decode cX12_mateOf 62 = .ok (.goto (-52), 3) := by decide +kernel
theorem dX12_mateOf_65 : decode cX12_mateOf 65 = .ok (.iconst (-1), 1) := by decide +kernel
theorem dX12_mateOf_66 : decode cX12_mateOf 66 = .ok (.ireturn, 1) := by decide +kernel
theorem dX12_mend_0 : decode cX12_mend 0 = .ok (.aload_n 0, 1) := by decide +kernel
theorem dX12_mend_1 : decode cX12_mend 1 = .ok (.iconst 0, 1) := by decide +kernel
theorem dX12_mend_2 : decode cX12_mend 2 = .ok (.putfield 130, 3) := by decide +kernel
theorem dX12_mend_5 : decode cX12_mend 5 = .ok (.iload_n 1, 1) := by decide +kernel
theorem dX12_mend_6 : decode cX12_mend 6 = .ok (.iconst (-1), 1) := by decide +kernel
theorem dX12_mend_7 : decode cX12_mend 7 = .ok (.if_icmp .eq 11, 3) := by decide +kernel
theorem dX12_mend_10 : decode cX12_mend 10 = .ok (.aload_n 0, 1) := by decide +kernel
theorem dX12_mend_11 : decode cX12_mend 11 = .ok (.iload_n 1, 1) := by decide +kernel
theorem dX12_mend_12 : decode cX12_mend 12 = .ok (.invokevirtual 155, 3) := by decide +kernel
theorem dX12_mend_15 : decode cX12_mend 15 = .ok (.ifCond .eq 10, 3) := by decide +kernel
theorem dX12_mend_18 : decode cX12_mend 18 = .ok (.aload_n 0, 1) := by decide +kernel
theorem dX12_mend_19 : decode cX12_mend 19 = .ok (.invokevirtual 481, 3) := by decide +kernel
theorem dX12_mend_22 : decode cX12_mend 22 = .ok (.ifCond .ne 5, 3) := by decide +kernel
theorem dX12_mend_25 : decode cX12_mend 25 = .ok (.iconst (-1), 1) := by decide +kernel
theorem dX12_mend_26 : decode cX12_mend 26 = .ok (.ireturn, 1) := by decide +kernel
theorem dX12_mend_27 : decode cX12_mend 27 = .ok (.iconst 0, 1) := by decide +kernel
theorem dX12_mend_28 : decode cX12_mend 28 = .ok (.istore_n 2, 1) := by decide +kernel
theorem dX12_mend_29 : decode cX12_mend 29 = .ok (.iconst 0, 1) := by decide +kernel
theorem dX12_mend_30 : decode cX12_mend 30 = .ok (.istore_n 3, 1) := by decide +kernel
theorem dX12_mend_31 : decode cX12_mend 31 = .ok (.iload_n 3, 1) := by decide +kernel
theorem dX12_mend_32 : decode cX12_mend 32 = .ok (.aload_n 0, 1) := by decide +kernel
theorem dX12_mend_33 : decode cX12_mend 33 = .ok (.getfield 148, 3) := by decide +kernel
theorem dX12_mend_36 : decode cX12_mend 36 = .ok (.if_icmp .ge 38, 3) := by decide +kernel
theorem dX12_mend_39 : decode cX12_mend 39 = .ok (.iload_n 1, 1) := by decide +kernel
theorem dX12_mend_40 : decode cX12_mend 40 = .ok (.iconst (-1), 1) := by decide +kernel
theorem dX12_mend_41 : decode cX12_mend 41 = .ok (.if_icmp .eq 8, 3) := by decide +kernel
theorem dX12_mend_44 : decode cX12_mend 44 = .ok (.iload_n 1, 1) := by decide +kernel
theorem dX12_mend_45 : decode cX12_mend 45 = .ok (.iload_n 3, 1) := by decide +kernel
theorem dX12_mend_46 : decode cX12_mend 46 = .ok (.if_icmp .ne 22, 3) := by decide +kernel
theorem dX12_mend_49 : decode cX12_mend 49 = .ok (.iload_n 2, 1) := by decide +kernel
theorem dX12_mend_50 : decode cX12_mend 50 = .ok (.aload_n 0, 1) := by decide +kernel
theorem dX12_mend_51 : decode cX12_mend 51 = .ok (.getfield 108, 3) := by decide +kernel
theorem dX12_mend_54 : decode cX12_mend 54 = .ok (.iload_n 3, 1) := by decide +kernel
theorem dX12_mend_55 : decode cX12_mend 55 = .ok (.iaload, 1) := by decide +kernel
theorem dX12_mend_56 : decode cX12_mend 56 = .ok (.iadd, 1) := by decide +kernel
theorem dX12_mend_57 : decode cX12_mend 57 = .ok (.aload_n 0, 1) := by decide +kernel
theorem dX12_mend_58 : decode cX12_mend 58 = .ok (.getfield 7, 3) := by decide +kernel
theorem dX12_mend_61 : decode cX12_mend 61 = .ok (.bipush 26, 2) := by decide +kernel
theorem dX12_mend_63 : decode cX12_mend 63 = .ok (.iload_n 3, 1) := by decide +kernel
theorem dX12_mend_64 : decode cX12_mend 64 = .ok (.iadd, 1) := by decide +kernel
theorem dX12_mend_65 : decode cX12_mend 65 = .ok (.iaload, 1) := by decide +kernel
theorem dX12_mend_66 : decode cX12_mend 66 = .ok (.isub, 1) := by decide +kernel
theorem dX12_mend_67 : decode cX12_mend 67 = .ok (.istore_n 2, 1) := by decide +kernel
theorem dX12_mend_68 : decode cX12_mend 68 = .ok (.iinc 3 1, 3) := by decide +kernel
theorem dX12_mend_71 : decode cX12_mend 71 = .ok (.goto (-40), 3) := by decide +kernel
theorem dX12_mend_74 : decode cX12_mend 74 = .ok (.iload_n 2, 1) := by decide +kernel
theorem dX12_mend_75 : decode cX12_mend 75 = .ok (.ireturn, 1) := by decide +kernel
theorem dX12_mends_0 : decode cX12_mends 0 = .ok (.iconst 0, 1) := by decide +kernel
theorem dX12_mends_1 : decode cX12_mends 1 = .ok (.istore_n 1, 1) := by decide +kernel
theorem dX12_mends_2 : decode cX12_mends 2 = .ok (.iload_n 1, 1) := by decide +kernel
theorem dX12_mends_3 : decode cX12_mends 3 = .ok (.aload_n 0, 1) := by decide +kernel
theorem dX12_mends_4 : decode cX12_mends 4 = .ok (.getfield 148, 3) := by decide +kernel
theorem dX12_mends_7 : decode cX12_mends 7 = .ok (.if_icmp .ge 24, 3) := by decide +kernel
theorem dX12_mends_10 : decode cX12_mends 10 = .ok (.aload_n 0, 1) := by decide +kernel
theorem dX12_mends_11 : decode cX12_mends 11 = .ok (.getfield 108, 3) := by decide +kernel
theorem dX12_mends_14 : decode cX12_mends 14 = .ok (.iload_n 1, 1) := by decide +kernel
theorem dX12_mends_15 : decode cX12_mends 15 = .ok (.aload_n 0, 1) := by decide +kernel
theorem dX12_mends_16 : decode cX12_mends 16 = .ok (.getfield 7, 3) := by decide +kernel
theorem dX12_mends_19 : decode cX12_mends 19 = .ok (.bipush 26, 2) := by decide +kernel
theorem dX12_mends_21 : decode cX12_mends 21 = .ok (.iload_n 1, 1) := by decide +kernel
theorem dX12_mends_22 : decode cX12_mends 22 = .ok (.iadd, 1) := by decide +kernel
theorem dX12_mends_23 : decode cX12_mends 23 = .ok (.iaload, 1) := by decide +kernel
theorem dX12_mends_24 : decode cX12_mends 24 = .ok (.iastore, 1) := by decide +kernel
theorem dX12_mends_25 : decode cX12_mends 25 = .ok (.iinc 1 1, 3) := by decide +kernel
theorem dX12_mends_28 : decode cX12_mends 28 = .ok (.goto (-26), 3) := by decide +kernel
theorem dX12_mends_31 : decode cX12_mends 31 = .ok (.iconst 1, 1) := by decide +kernel
theorem dX12_mends_32 : decode cX12_mends 32 = .ok (.istore_n 1, 1) := by decide +kernel
theorem dX12_mends_33 : decode cX12_mends 33 = .ok (.iload_n 1, 1) := by decide +kernel
theorem dX12_mends_34 : decode cX12_mends 34 = .ok (.ifCond .eq 124, 3) := by decide +kernel
theorem dX12_mends_37 : decode cX12_mends 37 = .ok (.iconst 0, 1) := by decide +kernel
theorem dX12_mends_38 : decode cX12_mends 38 = .ok (.istore_n 1, 1) := by decide +kernel
theorem dX12_mends_39 : decode cX12_mends 39 = .ok (.iconst 0, 1) := by decide +kernel
theorem dX12_mends_40 : decode cX12_mends 40 = .ok (.istore_n 2, 1) := by decide +kernel
theorem dX12_mends_41 : decode cX12_mends 41 = .ok (.iload_n 2, 1) := by decide +kernel
theorem dX12_mends_42 : decode cX12_mends 42 = .ok (.aload_n 0, 1) := by decide +kernel
theorem dX12_mends_43 : decode cX12_mends 43 = .ok (.getfield 148, 3) := by decide +kernel
theorem dX12_mends_46 : decode cX12_mends 46 = .ok (.if_icmp .ge 109, 3) := by decide +kernel
theorem dX12_mends_49 : decode cX12_mends 49 = .ok (.iconst 0, 1) := by decide +kernel
theorem dX12_mends_50 : decode cX12_mends 50 = .ok (.istore_n 3, 1) := by decide +kernel
theorem dX12_mends_51 : decode cX12_mends 51 = .ok (.iload_n 3, 1) := by decide +kernel
theorem dX12_mends_52 : decode cX12_mends 52 = .ok (.aload_n 0, 1) := by decide +kernel
theorem dX12_mends_53 : decode cX12_mends 53 = .ok (.getfield 148, 3) := by decide +kernel
theorem dX12_mends_56 : decode cX12_mends 56 = .ok (.if_icmp .ge 69, 3) := by decide +kernel
theorem dX12_mends_59 : decode cX12_mends 59 = .ok (.aload_n 0, 1) := by decide +kernel
theorem dX12_mends_60 : decode cX12_mends 60 = .ok (.getfield 108, 3) := by decide +kernel
theorem dX12_mends_63 : decode cX12_mends 63 = .ok (.iload_n 3, 1) := by decide +kernel
theorem dX12_mends_64 : decode cX12_mends 64 = .ok (.iaload, 1) := by decide +kernel
theorem dX12_mends_65 : decode cX12_mends 65 = .ok (.aload_n 0, 1) := by decide +kernel
theorem dX12_mends_66 : decode cX12_mends 66 = .ok (.getfield 22, 3) := by decide +kernel
theorem dX12_mends_69 : decode cX12_mends 69 = .ok (.iload_n 2, 1) := by decide +kernel
theorem dX12_mends_70 : decode cX12_mends 70 = .ok (.iaload, 1) := by decide +kernel
theorem dX12_mends_71 : decode cX12_mends 71 = .ok (.imul, 1) := by decide +kernel
theorem dX12_mends_72 : decode cX12_mends 72 = .ok (.aload_n 0, 1) := by decide +kernel
theorem dX12_mends_73 : decode cX12_mends 73 = .ok (.getfield 22, 3) := by decide +kernel
theorem dX12_mends_76 : decode cX12_mends 76 = .ok (.iload_n 3, 1) := by decide +kernel
theorem dX12_mends_77 : decode cX12_mends 77 = .ok (.iaload, 1) := by decide +kernel
theorem dX12_mends_78 : decode cX12_mends 78 = .ok (.iadd, 1) := by decide +kernel
theorem dX12_mends_79 : decode cX12_mends 79 = .ok (.iconst 1, 1) := by decide +kernel
theorem dX12_mends_80 : decode cX12_mends 80 = .ok (.isub, 1) := by decide +kernel
theorem dX12_mends_81 : decode cX12_mends 81 = .ok (.aload_n 0, 1) := by decide +kernel
theorem dX12_mends_82 : decode cX12_mends 82 = .ok (.getfield 22, 3) := by decide +kernel
theorem dX12_mends_85 : decode cX12_mends 85 = .ok (.iload_n 3, 1) := by decide +kernel
theorem dX12_mends_86 : decode cX12_mends 86 = .ok (.iaload, 1) := by decide +kernel
theorem dX12_mends_87 : decode cX12_mends 87 = .ok (.idiv, 1) := by decide +kernel
theorem dX12_mends_88 : decode cX12_mends 88 = .ok (.aload_n 0, 1) := by decide +kernel
theorem dX12_mends_89 : decode cX12_mends 89 = .ok (.getfield 169, 3) := by decide +kernel
theorem dX12_mends_92 : decode cX12_mends 92 = .ok (.isub, 1) := by decide +kernel
theorem dX12_mends_93 : decode cX12_mends 93 = .ok (.istore 4, 2) := by decide +kernel
theorem dX12_mends_95 : decode cX12_mends 95 = .ok (.iload 4, 2) := by decide +kernel
theorem dX12_mends_97 : decode cX12_mends 97 = .ok (.aload_n 0, 1) := by decide +kernel
theorem dX12_mends_98 : decode cX12_mends 98 = .ok (.getfield 108, 3) := by decide +kernel
theorem dX12_mends_101 : decode cX12_mends 101 = .ok (.iload_n 2, 1) := by decide +kernel
theorem dX12_mends_102 : decode cX12_mends 102 = .ok (.iaload, 1) := by decide +kernel
theorem dX12_mends_103 : decode cX12_mends 103 = .ok (.if_icmp .gt 6, 3) := by decide +kernel
theorem dX12_mends_106 : decode cX12_mends 106 = .ok (.goto 13, 3) := by decide +kernel
theorem dX12_mends_109 : decode cX12_mends 109 = .ok (.aload_n 0, 1) := by decide +kernel
theorem dX12_mends_110 : decode cX12_mends 110 = .ok (.getfield 108, 3) := by decide +kernel
theorem dX12_mends_113 : decode cX12_mends 113 = .ok (.iload_n 2, 1) := by decide +kernel
theorem dX12_mends_114 : decode cX12_mends 114 = .ok (.iload 4, 2) := by decide +kernel
theorem dX12_mends_116 : decode cX12_mends 116 = .ok (.iastore, 1) := by decide +kernel
theorem dX12_mends_117 : decode cX12_mends 117 = .ok (.iconst 1, 1) := by decide +kernel
theorem dX12_mends_118 : decode cX12_mends 118 = .ok (.istore_n 1, 1) := by decide +kernel
theorem dX12_mends_119 : decode cX12_mends 119 = .ok (.iinc 3 1, 3) := by decide +kernel
theorem dX12_mends_122 : decode cX12_mends 122 = .ok (.goto (-71), 3) := by decide +kernel
theorem dX12_mends_125 : decode cX12_mends 125 = .ok (.aload_n 0, 1) := by decide +kernel
theorem dX12_mends_126 : decode cX12_mends 126 = .ok (.getfield 108, 3) := by decide +kernel
theorem dX12_mends_129 : decode cX12_mends 129 = .ok (.iload_n 2, 1) := by decide +kernel
theorem dX12_mends_130 : decode cX12_mends 130 = .ok (.iaload, 1) := by decide +kernel
theorem dX12_mends_131 : decode cX12_mends 131 = .ok (.aload_n 0, 1) := by decide +kernel
theorem dX12_mends_132 : decode cX12_mends 132 = .ok (.getfield 7, 3) := by decide +kernel
theorem dX12_mends_135 : decode cX12_mends 135 = .ok (.bipush 26, 2) := by decide +kernel
theorem dX12_mends_137 : decode cX12_mends 137 = .ok (.iload_n 2, 1) := by decide +kernel
theorem dX12_mends_138 : decode cX12_mends 138 = .ok (.iadd, 1) := by decide +kernel
theorem dX12_mends_139 : decode cX12_mends 139 = .ok (.iaload, 1) := by decide +kernel
theorem dX12_mends_140 : decode cX12_mends 140 = .ok (.isub, 1) := by decide +kernel
theorem dX12_mends_141 : decode cX12_mends 141 = .ok (.sipush 9999, 3) := by decide +kernel
theorem dX12_mends_144 : decode cX12_mends 144 = .ok (.if_icmp .le 5, 3) := by decide +kernel
theorem dX12_mends_147 : decode cX12_mends 147 = .ok (.iconst 0, 1) := by decide +kernel
theorem dX12_mends_148 : decode cX12_mends 148 = .ok (.ireturn, 1) := by decide +kernel
theorem dX12_mends_149 : decode cX12_mends 149 = .ok (.iinc 2 1, 3) := by decide +kernel
theorem dX12_mends_152 : decode cX12_mends 152 = .ok (.goto (-111), 3) := by decide +kernel
theorem dX12_mends_155 : decode cX12_mends 155 = .ok (.goto (-122), 3) := by decide +kernel
theorem dX12_mends_158 : decode cX12_mends 158 = .ok (.iconst 1, 1) := by decide +kernel
theorem dX12_mends_159 : decode cX12_mends 159 = .ok (.ireturn, 1) := by decide +kernel
theorem dX12_pairsBy_0 : decode cX12_pairsBy 0 = .ok (.iconst 1, 1) := by decide +kernel
theorem dX12_pairsBy_1 : decode cX12_pairsBy 1 = .ok (.aload_n 0, 1) := by decide +kernel
theorem dX12_pairsBy_2 : decode cX12_pairsBy 2 = .ok (.getfield 111, 3) := by decide +kernel
theorem dX12_pairsBy_5 : decode cX12_pairsBy 5 = .ok (.iload_n 1, 1) := by decide +kernel
theorem dX12_pairsBy_6 : decode cX12_pairsBy 6 = .ok (.iconst 1, 1) := by decide +kernel
theorem dX12_pairsBy_7 : decode cX12_pairsBy 7 = .ok (.iload_n 2, 1) := by decide +kernel
theorem dX12_pairsBy_8 : decode cX12_pairsBy 8 = .ok (.ishl, 1) := by decide +kernel
theorem dX12_pairsBy_9 : decode cX12_pairsBy 9 = .ok (.iconst (-1), 1) := by decide +kernel
theorem dX12_pairsBy_10 : decode cX12_pairsBy 10 = .ok (.ixor, 1) := by decide +kernel
theorem dX12_pairsBy_11 : decode cX12_pairsBy 11 = .ok (.iand, 1) := by decide +kernel
theorem dX12_pairsBy_12 : decode cX12_pairsBy 12 = .ok (.iconst 1, 1) := by decide +kernel
theorem dX12_pairsBy_13 : decode cX12_pairsBy 13 = .ok (.iload_n 3, 1) := by decide +kernel
theorem dX12_pairsBy_14 : decode cX12_pairsBy 14 = .ok (.ishl, 1) := by decide +kernel
theorem dX12_pairsBy_15 : decode cX12_pairsBy 15 = .ok (.iconst (-1), 1) := by decide +kernel
theorem dX12_pairsBy_16 : decode cX12_pairsBy 16 = .ok (.ixor, 1) := by decide +kernel
theorem dX12_pairsBy_17 : decode cX12_pairsBy 17 = .ok (.iand, 1) := by decide +kernel
theorem dX12_pairsBy_18 : decode cX12_pairsBy 18 = .ok (.iaload, 1) := by decide +kernel
theorem dX12_pairsBy_19 : decode cX12_pairsBy 19 = .ok (.iadd, 1) := by decide +kernel
theorem dX12_pairsBy_20 : decode cX12_pairsBy 20 = .ok (.ireturn, 1) := by decide +kernel
theorem dX12_plan_0 : decode cX12_plan 0 = .ok (.aload_n 0, 1) := by decide +kernel
theorem dX12_plan_1 : decode cX12_plan 1 = .ok (.iconst 0, 1) := by decide +kernel
theorem dX12_plan_2 : decode cX12_plan 2 = .ok (.putfield 130, 3) := by decide +kernel
theorem dX12_plan_5 : decode cX12_plan 5 = .ok (.aload_n 0, 1) := by decide +kernel
theorem dX12_plan_6 : decode cX12_plan 6 = .ok (.iload_n 1, 1) := by decide +kernel
theorem dX12_plan_7 : decode cX12_plan 7 = .ok (.iconst 1, 1) := by decide +kernel
theorem dX12_plan_8 : decode cX12_plan 8 = .ok (.bipush 10, 2) := by decide +kernel
theorem dX12_plan_10 : decode cX12_plan 10 = .ok (.invokevirtual 151, 3) := by decide +kernel
theorem dX12_plan_13 : decode cX12_plan 13 = .ok (.ifCond .eq 34, 3) := by decide +kernel
theorem dX12_plan_16 : decode cX12_plan 16 = .ok (.aload_n 0, 1) := by decide +kernel
theorem dX12_plan_17 : decode cX12_plan 17 = .ok (.getfield 148, 3) := by decide +kernel
theorem dX12_plan_20 : decode cX12_plan 20 = .ok (.ifCond .eq 27, 3) := by decide +kernel
theorem dX12_plan_23 : decode cX12_plan 23 = .ok (.aload_n 0, 1) := by decide +kernel
theorem dX12_plan_24 : decode cX12_plan 24 = .ok (.iload_n 2, 1) := by decide +kernel
theorem dX12_plan_25 : decode cX12_plan 25 = .ok (.iconst 0, 1) := by decide +kernel
theorem dX12_plan_26 : decode cX12_plan 26 = .ok (.iconst 1, 1) := by decide +kernel
theorem dX12_plan_27 : decode cX12_plan 27 = .ok (.invokevirtual 151, 3) := by decide +kernel
theorem dX12_plan_30 : decode cX12_plan 30 = .ok (.ifCond .ne 19, 3) := by decide +kernel
theorem dX12_plan_33 : decode cX12_plan 33 = .ok (.aload_n 0, 1) := by decide +kernel
theorem dX12_plan_34 : decode cX12_plan 34 = .ok (.iload_n 2, 1) := by decide +kernel
theorem dX12_plan_35 : decode cX12_plan 35 = .ok (.bipush 10, 2) := by decide +kernel
theorem dX12_plan_37 : decode cX12_plan 37 = .ok (.bipush 9, 2) := by decide +kernel
theorem dX12_plan_39 : decode cX12_plan 39 = .ok (.iload_n 1, 1) := by decide +kernel
theorem dX12_plan_40 : decode cX12_plan 40 = .ok (.iadd, 1) := by decide +kernel
theorem dX12_plan_41 : decode cX12_plan 41 = .ok (.invokevirtual 151, 3) := by decide +kernel
theorem dX12_plan_44 : decode cX12_plan 44 = .ok (.ifCond .ne 5, 3) := by decide +kernel
theorem dX12_plan_47 : decode cX12_plan 47 = .ok (.iconst (-1), 1) := by decide +kernel
theorem dX12_plan_48 : decode cX12_plan 48 = .ok (.ireturn, 1) := by decide +kernel
theorem dX12_plan_49 : decode cX12_plan 49 = .ok (.aload_n 0, 1) := by decide +kernel
theorem dX12_plan_50 : decode cX12_plan 50 = .ok (.aload_n 0, 1) := by decide +kernel
theorem dX12_plan_51 : decode cX12_plan 51 = .ok (.getfield 7, 3) := by decide +kernel
theorem dX12_plan_54 : decode cX12_plan 54 = .ok (.iconst 4, 1) := by decide +kernel
theorem dX12_plan_55 : decode cX12_plan 55 = .ok (.iaload, 1) := by decide +kernel
theorem dX12_plan_56 : decode cX12_plan 56 = .ok (.invokevirtual 353, 3) := by decide +kernel
theorem dX12_plan_59 : decode cX12_plan 59 = .ok (.aload_n 0, 1) := by decide +kernel
theorem dX12_plan_60 : decode cX12_plan 60 = .ok (.iload_n 1, 1) := by decide +kernel
theorem dX12_plan_61 : decode cX12_plan 61 = .ok (.invokevirtual 478, 3) := by decide +kernel
theorem dX12_plan_64 : decode cX12_plan 64 = .ok (.aload_n 0, 1) := by decide +kernel
theorem dX12_plan_65 : decode cX12_plan 65 = .ok (.getfield 7, 3) := by decide +kernel
theorem dX12_plan_68 : decode cX12_plan 68 = .ok (.iconst 3, 1) := by decide +kernel
theorem dX12_plan_69 : decode cX12_plan 69 = .ok (.iaload, 1) := by decide +kernel
theorem dX12_plan_70 : decode cX12_plan 70 = .ok (.istore_n 3, 1) := by decide +kernel
theorem dX12_plan_71 : decode cX12_plan 71 = .ok (.iconst 0, 1) := by decide +kernel
theorem dX12_plan_72 : decode cX12_plan 72 = .ok (.istore 4, 2) := by decide +kernel
theorem dX12_plan_74 : decode cX12_plan 74 = .ok (.iconst 0, 1) := by decide +kernel
theorem dX12_plan_75 : decode cX12_plan 75 = .ok (.istore 5, 2) := by decide +kernel
theorem dX12_plan_77 : decode cX12_plan 77 = .ok (.iconst 0, 1) := by decide +kernel
theorem dX12_plan_78 : decode cX12_plan 78 = .ok (.istore 6, 2) := by decide +kernel
theorem dX12_plan_80 : decode cX12_plan 80 = .ok (.iload 6, 2) := by decide +kernel
theorem dX12_plan_82 : decode cX12_plan 82 = .ok (.iload_n 1, 1) := by decide +kernel
theorem dX12_plan_83 : decode cX12_plan 83 = .ok (.if_icmp .ge 64, 3) := by decide +kernel
theorem dX12_plan_86 : decode cX12_plan 86 = .ok (.aload_n 0, 1) := by decide +kernel
theorem dX12_plan_87 : decode cX12_plan 87 = .ok (.iload 6, 2) := by decide +kernel
theorem dX12_plan_89 : decode cX12_plan 89 = .ok (.iload_n 3, 1) := by decide +kernel
theorem dX12_plan_90 : decode cX12_plan 90 = .ok (.iload 4, 2) := by decide +kernel
theorem dX12_plan_92 : decode cX12_plan 92 = .ok (.invokevirtual 475, 3) := by decide +kernel
theorem dX12_plan_95 : decode cX12_plan 95 = .ok (.istore 7, 2) := by decide +kernel
theorem dX12_plan_97 : decode cX12_plan 97 = .ok (.aload_n 0, 1) := by decide +kernel
theorem dX12_plan_98 : decode cX12_plan 98 = .ok (.iload 6, 2) := by decide +kernel
theorem dX12_plan_100 : decode cX12_plan 100 = .ok (.iload_n 3, 1) := by decide +kernel
theorem dX12_plan_101 : decode cX12_plan 101 = .ok (.iload 7, 2) := by decide +kernel
theorem dX12_plan_103 : decode cX12_plan 103 = .ok (.iload 4, 2) := by decide +kernel
theorem dX12_plan_105 : decode cX12_plan 105 = .ok (.invokevirtual 462, 3) := by decide +kernel
theorem dX12_plan_108 : decode cX12_plan 108 = .ok (.istore 4, 2) := by decide +kernel
theorem dX12_plan_110 : decode cX12_plan 110 = .ok (.iload 5, 2) := by decide +kernel
theorem dX12_plan_112 : decode cX12_plan 112 = .ok (.aload_n 0, 1) := by decide +kernel
theorem dX12_plan_113 : decode cX12_plan 113 = .ok (.getfield 101, 3) := by decide +kernel
theorem dX12_plan_116 : decode cX12_plan 116 = .ok (.bipush 10, 2) := by decide +kernel
theorem dX12_plan_118 : decode cX12_plan 118 = .ok (.iload_n 3, 1) := by decide +kernel
theorem dX12_plan_119 : decode cX12_plan 119 = .ok (.imul, 1) := by decide +kernel
theorem dX12_plan_120 : decode cX12_plan 120 = .ok (.iload 7, 2) := by decide +kernel
theorem dX12_plan_122 : decode cX12_plan 122 = .ok (.iadd, 1) := by decide +kernel
theorem dX12_plan_123 : decode cX12_plan 123 = .ok (.iaload, 1) := by decide +kernel
theorem dX12_plan_124 : decode cX12_plan 124 = .ok (.iadd, 1) := by decide +kernel
theorem dX12_plan_125 : decode cX12_plan 125 = .ok (.istore 5, 2) := by decide +kernel
theorem dX12_plan_127 : decode cX12_plan 127 = .ok (.iload 7, 2) := by decide +kernel
theorem dX12_plan_129 : decode cX12_plan 129 = .ok (.istore_n 3, 1) := by decide +kernel
theorem dX12_plan_130 : decode cX12_plan 130 = .ok (.iload_n 2, 1) := by decide +kernel
theorem dX12_plan_131 : decode cX12_plan 131 = .ok (.bipush 10, 2) := by decide +kernel
theorem dX12_plan_133 : decode cX12_plan 133 = .ok (.iload 6, 2) := by decide +kernel
theorem dX12_plan_135 : decode cX12_plan 135 = .ok (.iadd, 1) := by decide +kernel
theorem dX12_plan_136 : decode cX12_plan 136 = .ok (.if_icmp .ne 5, 3) := by decide +kernel
theorem dX12_plan_139 : decode cX12_plan 139 = .ok (.iload_n 3, 1) := by decide +kernel
theorem dX12_plan_140 : decode cX12_plan 140 = .ok (.ireturn, 1) := by decide +kernel
theorem dX12_plan_141 : decode cX12_plan 141 = .ok (.iinc 6 1, 3) := by decide +kernel
theorem dX12_plan_144 : decode cX12_plan 144 = .ok (.goto (-64), 3) := by decide +kernel
theorem dX12_plan_147 : decode cX12_plan 147 = .ok (.iload_n 2, 1) := by decide +kernel
theorem dX12_plan_148 : decode cX12_plan 148 = .ok (.ifCond .ne 12, 3) := by decide +kernel
theorem dX12_plan_151 : decode cX12_plan 151 = .ok (.aload_n 0, 1) := by decide +kernel
theorem dX12_plan_152 : decode cX12_plan 152 = .ok (.iload 4, 2) := by decide +kernel
theorem dX12_plan_154 : decode cX12_plan 154 = .ok (.invokevirtual 466, 3) := by decide +kernel
theorem dX12_plan_157 : decode cX12_plan 157 = .ok (.goto 5, 3) := by decide +kernel
theorem dX12_plan_160 : decode cX12_plan 160 = .ok (.iload 5, 2) := by decide +kernel
theorem dX12_plan_162 : decode cX12_plan 162 = .ok (.ireturn, 1) := by decide +kernel
theorem dX12_planAt_0 : decode cX12_planAt 0 = .ok (.sipush 1024, 3) := by decide +kernel
theorem dX12_planAt_3 : decode cX12_planAt 3 = .ok (.bipush 10, 2) := by decide +kernel
theorem dX12_planAt_5 : decode cX12_planAt 5 = .ok (.iload_n 1, 1) := by decide +kernel
theorem dX12_planAt_6 : decode cX12_planAt 6 = .ok (.imul, 1) := by decide +kernel
theorem dX12_planAt_7 : decode cX12_planAt 7 = .ok (.iload_n 2, 1) := by decide +kernel
theorem dX12_planAt_8 : decode cX12_planAt 8 = .ok (.iadd, 1) := by decide +kernel
theorem dX12_planAt_9 : decode cX12_planAt 9 = .ok (.imul, 1) := by decide +kernel
theorem dX12_planAt_10 : decode cX12_planAt 10 = .ok (.iload_n 3, 1) := by decide +kernel
theorem dX12_planAt_11 : decode cX12_planAt 11 = .ok (.iadd, 1) := by decide +kernel
theorem dX12_planAt_12 : decode cX12_planAt 12 = .ok (.ireturn, 1) := by decide +kernel
theorem dX12_roomOf_0 : decode cX12_roomOf 0 = .ok (.iconst 1, 1) := by decide +kernel
theorem dX12_roomOf_1 : decode cX12_roomOf 1 = .ok (.aload_n 0, 1) := by decide +kernel
theorem dX12_roomOf_2 : decode cX12_roomOf 2 = .ok (.getfield 148, 3) := by decide +kernel
theorem dX12_roomOf_5 : decode cX12_roomOf 5 = .ok (.ishl, 1) := by decide +kernel
theorem dX12_roomOf_6 : decode cX12_roomOf 6 = .ok (.iconst 1, 1) := by decide +kernel
theorem dX12_roomOf_7 : decode cX12_roomOf 7 = .ok (.isub, 1) := by decide +kernel
theorem dX12_roomOf_8 : decode cX12_roomOf 8 = .ok (.istore_n 2, 1) := by decide +kernel
theorem dX12_roomOf_9 : decode cX12_roomOf 9 = .ok (.iload_n 2, 1) := by decide +kernel
theorem dX12_roomOf_10 : decode cX12_roomOf 10 = .ok (.ifCond .eq 56, 3) := by decide +kernel
theorem dX12_roomOf_13 : decode cX12_roomOf 13 = .ok (.aload_n 0, 1) := by decide +kernel
theorem dX12_roomOf_14 : decode cX12_roomOf 14 = .ok (.iload_n 2, 1) := by decide +kernel
theorem dX12_roomOf_15 : decode cX12_roomOf 15 = .ok (.invokevirtual 484, 3) := by decide +kernel
theorem dX12_roomOf_18 : decode cX12_roomOf 18 = .ok (.istore_n 3, 1) := by decide +kernel
theorem dX12_roomOf_19 : decode cX12_roomOf 19 = .ok (.aload_n 0, 1) := by decide +kernel
theorem dX12_roomOf_20 : decode cX12_roomOf 20 = .ok (.iload_n 2, 1) := by decide +kernel
theorem dX12_roomOf_21 : decode cX12_roomOf 21 = .ok (.invokevirtual 493, 3) := by decide +kernel
theorem dX12_roomOf_24 : decode cX12_roomOf 24 = .ok (.istore 4, 2) := by decide +kernel
theorem dX12_roomOf_26 : decode cX12_roomOf 26 = .ok (.iload_n 3, 1) := by decide +kernel
theorem dX12_roomOf_27 : decode cX12_roomOf 27 = .ok (.iload_n 1, 1) := by decide +kernel
theorem dX12_roomOf_28 : decode cX12_roomOf 28 = .ok (.if_icmp .ne 6, 3) := by decide +kernel
theorem dX12_roomOf_31 : decode cX12_roomOf 31 = .ok (.iload 4, 2) := by decide +kernel
theorem dX12_roomOf_33 : decode cX12_roomOf 33 = .ok (.ireturn, 1) := by decide +kernel
theorem dX12_roomOf_34 : decode cX12_roomOf 34 = .ok (.iload 4, 2) := by decide +kernel
theorem dX12_roomOf_36 : decode cX12_roomOf 36 = .ok (.iload_n 1, 1) := by decide +kernel
theorem dX12_roomOf_37 : decode cX12_roomOf 37 = .ok (.if_icmp .ne 5, 3) := by decide +kernel
theorem dX12_roomOf_40 : decode cX12_roomOf 40 = .ok (.iload_n 3, 1) := by decide +kernel
theorem dX12_roomOf_41 : decode cX12_roomOf 41 = .ok (.ireturn, 1) := by decide +kernel
theorem dX12_roomOf_42 : decode cX12_roomOf 42 = .ok (.iload_n 2, 1) := by decide +kernel
theorem dX12_roomOf_43 : decode cX12_roomOf 43 = .ok (.iload_n 2, 1) := by decide +kernel
theorem dX12_roomOf_44 : decode cX12_roomOf 44 = .ok (.iconst 1, 1) := by decide +kernel
theorem dX12_roomOf_45 : decode cX12_roomOf 45 = .ok (.isub, 1) := by decide +kernel
theorem dX12_roomOf_46 : decode cX12_roomOf 46 = .ok (.iand, 1) := by decide +kernel
theorem dX12_roomOf_47 : decode cX12_roomOf 47 = .ok (.istore_n 2, 1) := by decide +kernel
theorem dX12_roomOf_48 : decode cX12_roomOf 48 = .ok (.iload 4, 2) := by decide +kernel
theorem dX12_roomOf_50 : decode cX12_roomOf 50 = .ok (.iconst (-1), 1) := by decide +kernel
theorem dX12_roomOf_51 : decode cX12_roomOf 51 = .ok (.if_icmp .eq 12, 3) := by decide +kernel
theorem dX12_roomOf_54 : decode cX12_roomOf 54 = .ok (.iload_n 2, 1) := by decide +kernel
theorem dX12_roomOf_55 : decode cX12_roomOf 55 = .ok (.iconst 1, 1) := by decide +kernel
theorem dX12_roomOf_56 : decode cX12_roomOf 56 = .ok (.iload 4, 2) := by decide +kernel
theorem dX12_roomOf_58 : decode cX12_roomOf 58 = .ok (.ishl, 1) := by decide +kernel
theorem dX12_roomOf_59 : decode cX12_roomOf 59 = .ok (.iconst (-1), 1) := by decide +kernel
theorem dX12_roomOf_60 : decode cX12_roomOf 60 = .ok (.ixor, 1) := by decide +kernel
theorem dX12_roomOf_61 : decode cX12_roomOf 61 = .ok (.iand, 1) := by decide +kernel
theorem dX12_roomOf_62 : decode cX12_roomOf 62 = .ok (.istore_n 2, 1) := by decide +kernel
theorem dX12_roomOf_63 : decode cX12_roomOf 63 = .ok (.goto (-54), 3) := by decide +kernel
theorem dX12_roomOf_66 : decode cX12_roomOf 66 = .ok (.iconst (-1), 1) := by decide +kernel
theorem dX12_roomOf_67 : decode cX12_roomOf 67 = .ok (.ireturn, 1) := by decide +kernel
theorem dX12_rooms_0 : decode cX12_rooms 0 = .ok (.aload_n 0, 1) := by decide +kernel
theorem dX12_rooms_1 : decode cX12_rooms 1 = .ok (.iconst 0, 1) := by decide +kernel
theorem dX12_rooms_2 : decode cX12_rooms 2 = .ok (.putfield 130, 3) := by decide +kernel
theorem dX12_rooms_5 : decode cX12_rooms 5 = .ok (.iload_n 1, 1) := by decide +kernel
theorem dX12_rooms_6 : decode cX12_rooms 6 = .ok (.ifCond .eq 22, 3) := by decide +kernel
theorem dX12_rooms_9 : decode cX12_rooms 9 = .ok (.aload_n 0, 1) := by decide +kernel
theorem dX12_rooms_10 : decode cX12_rooms 10 = .ok (.iload_n 1, 1) := by decide +kernel
theorem dX12_rooms_11 : decode cX12_rooms 11 = .ok (.bipush 10, 2) := by decide +kernel
theorem dX12_rooms_13 : decode cX12_rooms 13 = .ok (.bipush 9, 2) := by decide +kernel
theorem dX12_rooms_15 : decode cX12_rooms 15 = .ok (.aload_n 0, 1) := by decide +kernel
theorem dX12_rooms_16 : decode cX12_rooms 16 = .ok (.getfield 148, 3) := by decide +kernel
theorem dX12_rooms_19 : decode cX12_rooms 19 = .ok (.iadd, 1) := by decide +kernel
theorem dX12_rooms_20 : decode cX12_rooms 20 = .ok (.invokevirtual 151, 3) := by decide +kernel
theorem dX12_rooms_23 : decode cX12_rooms 23 = .ok (.ifCond .ne 5, 3) := by decide +kernel
theorem dX12_rooms_26 : decode cX12_rooms 26 = .ok (.iconst (-1), 1) := by decide +kernel
theorem dX12_rooms_27 : decode cX12_rooms 27 = .ok (.ireturn, 1) := by decide +kernel
theorem dX12_rooms_28 : decode cX12_rooms 28 = .ok (.aload_n 0, 1) := by decide +kernel
theorem dX12_rooms_29 : decode cX12_rooms 29 = .ok (.invokevirtual 496, 3) := by decide +kernel
theorem dX12_rooms_32 : decode cX12_rooms 32 = .ok (.iload_n 1, 1) := by decide +kernel
theorem dX12_rooms_33 : decode cX12_rooms 33 = .ok (.ifCond .ne 19, 3) := by decide +kernel
theorem dX12_rooms_36 : decode cX12_rooms 36 = .ok (.aload_n 0, 1) := by decide +kernel
theorem dX12_rooms_37 : decode cX12_rooms 37 = .ok (.getfield 111, 3) := by decide +kernel
theorem dX12_rooms_40 : decode cX12_rooms 40 = .ok (.iconst 1, 1) := by decide +kernel
theorem dX12_rooms_41 : decode cX12_rooms 41 = .ok (.aload_n 0, 1) := by decide +kernel
theorem dX12_rooms_42 : decode cX12_rooms 42 = .ok (.getfield 148, 3) := by decide +kernel
theorem dX12_rooms_45 : decode cX12_rooms 45 = .ok (.ishl, 1) := by decide +kernel
theorem dX12_rooms_46 : decode cX12_rooms 46 = .ok (.iconst 1, 1) := by decide +kernel
theorem dX12_rooms_47 : decode cX12_rooms 47 = .ok (.isub, 1) := by decide +kernel
theorem dX12_rooms_48 : decode cX12_rooms 48 = .ok (.iaload, 1) := by decide +kernel
theorem dX12_rooms_49 : decode cX12_rooms 49 = .ok (.goto 11, 3) := by decide +kernel
theorem dX12_rooms_52 : decode cX12_rooms 52 = .ok (.aload_n 0, 1) := by decide +kernel
theorem dX12_rooms_53 : decode cX12_rooms 53 = .ok (.iload_n 1, 1) := by decide +kernel
theorem dX12_rooms_54 : decode cX12_rooms 54 = .ok (.bipush 10, 2) := by decide +kernel
theorem dX12_rooms_56 : decode cX12_rooms 56 = .ok (.isub, 1) := by decide +kernel
theorem dX12_rooms_57 : decode cX12_rooms 57 = .ok (.invokevirtual 499, 3) := by decide +kernel
theorem dX12_rooms_60 : decode cX12_rooms 60 = .ok (.ireturn, 1) := by decide +kernel
theorem q_124 : Cond.selects RX12 yX12_findsPlans yX12_findsPlans ∈ GW := inG 124 (by decide +kernel) (by decide +kernel)
theorem q_125 : Cond.selects RX12 yX12_planAt yX12_planAt ∈ GW := inG 125 (by decide +kernel) (by decide +kernel)
theorem q_126 : Cond.selects RX12 yX12_bestStep yX12_bestStep ∈ GW := inG 126 (by decide +kernel) (by decide +kernel)
theorem q_127 : Cond.selects RX12 yX12_byStep yX12_byStep ∈ GW := inG 127 (by decide +kernel) (by decide +kernel)
theorem q_128 : Cond.selects RX12 yX12_doneBy yX12_doneBy ∈ GW := inG 128 (by decide +kernel) (by decide +kernel)
theorem q_129 : Cond.selects RX12 yX12_worthOf yX12_worthOf ∈ GW := inG 129 (by decide +kernel) (by decide +kernel)
theorem q_130 : Cond.selects RX12 yX12_mends yX12_mends ∈ GW := inG 130 (by decide +kernel) (by decide +kernel)
theorem q_131 : Cond.selects RX12 yX12_findsPairs yX12_findsPairs ∈ GW := inG 131 (by decide +kernel) (by decide +kernel)
theorem q_132 : Cond.selects RX12 yX12_lowest yX12_lowest ∈ GW := inG 132 (by decide +kernel) (by decide +kernel)
theorem q_133 : Cond.selects RX12 yX12_pairsBy yX12_pairsBy ∈ GW := inG 133 (by decide +kernel) (by decide +kernel)
theorem q_135 : Cond.selects RX12 yX12_roomOf yX12_roomOf ∈ GW := inG 135 (by decide +kernel) (by decide +kernel)
theorem q_136 : Cond.selects RX12 yX12_mateOf yX12_mateOf ∈ GW := inG 136 (by decide +kernel) (by decide +kernel)
theorem q_1458 : Cond.fieldLink RX12 105 "LampRoundModel" "plans" "[I" ∈ GW := inG 1458 (by decide +kernel) (by decide +kernel)
theorem q_1459 : Cond.fieldLink RX12 108 "LampRoundModel" "mended" "[I" ∈ GW := inG 1459 (by decide +kernel) (by decide +kernel)
theorem q_1460 : Cond.fieldLink RX12 111 "LampRoundModel" "pairsOf" "[I" ∈ GW := inG 1460 (by decide +kernel) (by decide +kernel)
theorem q_1990 : Cond.methodLink RX12 478 yX12_findsPlans ∈ GW := inG 1990 (by decide +kernel) (by decide +kernel)
theorem q_1992 : Cond.instanceMethod yX12_findsPlans ∈ GW := inG 1992 (by decide +kernel) (by decide +kernel)
theorem q_1993 : Cond.code yX12_findsPlans cX12_findsPlans 5 none ∈ GW := inG 1993 (by decide +kernel) (by decide +kernel)
theorem q_1994 : Cond.methodLink RX12 469 yX12_planAt ∈ GW := inG 1994 (by decide +kernel) (by decide +kernel)
theorem q_1996 : Cond.instanceMethod yX12_planAt ∈ GW := inG 1996 (by decide +kernel) (by decide +kernel)
theorem q_1997 : Cond.code yX12_planAt cX12_planAt 4 (some .int) ∈ GW := inG 1997 (by decide +kernel) (by decide +kernel)
theorem q_1998 : Cond.methodLink RX12 475 yX12_bestStep ∈ GW := inG 1998 (by decide +kernel) (by decide +kernel)
theorem q_2000 : Cond.instanceMethod yX12_bestStep ∈ GW := inG 2000 (by decide +kernel) (by decide +kernel)
theorem q_2001 : Cond.code yX12_bestStep cX12_bestStep 6 (some .int) ∈ GW := inG 2001 (by decide +kernel) (by decide +kernel)
theorem q_2002 : Cond.methodLink RX12 472 yX12_byStep ∈ GW := inG 2002 (by decide +kernel) (by decide +kernel)
theorem q_2004 : Cond.instanceMethod yX12_byStep ∈ GW := inG 2004 (by decide +kernel) (by decide +kernel)
theorem q_2005 : Cond.code yX12_byStep cX12_byStep 6 (some .int) ∈ GW := inG 2005 (by decide +kernel) (by decide +kernel)
theorem q_2006 : Cond.methodLink RX12 462 yX12_doneBy ∈ GW := inG 2006 (by decide +kernel) (by decide +kernel)
theorem q_2008 : Cond.instanceMethod yX12_doneBy ∈ GW := inG 2008 (by decide +kernel) (by decide +kernel)
theorem q_2009 : Cond.code yX12_doneBy cX12_doneBy 9 (some .int) ∈ GW := inG 2009 (by decide +kernel) (by decide +kernel)
theorem q_2010 : Cond.methodLink RX12 466 yX12_worthOf ∈ GW := inG 2010 (by decide +kernel) (by decide +kernel)
theorem q_2012 : Cond.instanceMethod yX12_worthOf ∈ GW := inG 2012 (by decide +kernel) (by decide +kernel)
theorem q_2013 : Cond.code yX12_worthOf cX12_worthOf 4 (some .int) ∈ GW := inG 2013 (by decide +kernel) (by decide +kernel)
theorem q_2018 : Cond.methodLink RX12 481 yX12_mends ∈ GW := inG 2018 (by decide +kernel) (by decide +kernel)
theorem q_2020 : Cond.instanceMethod yX12_mends ∈ GW := inG 2020 (by decide +kernel) (by decide +kernel)
theorem q_2021 : Cond.code yX12_mends cX12_mends 5 (some .boolean) ∈ GW := inG 2021 (by decide +kernel) (by decide +kernel)
theorem q_2026 : Cond.methodLink RX12 496 yX12_findsPairs ∈ GW := inG 2026 (by decide +kernel) (by decide +kernel)
theorem q_2028 : Cond.instanceMethod yX12_findsPairs ∈ GW := inG 2028 (by decide +kernel) (by decide +kernel)
theorem q_2029 : Cond.code yX12_findsPairs cX12_findsPairs 5 none ∈ GW := inG 2029 (by decide +kernel) (by decide +kernel)
theorem q_2030 : Cond.methodLink RX12 484 yX12_lowest ∈ GW := inG 2030 (by decide +kernel) (by decide +kernel)
theorem q_2032 : Cond.instanceMethod yX12_lowest ∈ GW := inG 2032 (by decide +kernel) (by decide +kernel)
theorem q_2033 : Cond.code yX12_lowest cX12_lowest 3 (some .int) ∈ GW := inG 2033 (by decide +kernel) (by decide +kernel)
theorem q_2034 : Cond.methodLink RX12 487 yX12_pairsBy ∈ GW := inG 2034 (by decide +kernel) (by decide +kernel)
theorem q_2036 : Cond.instanceMethod yX12_pairsBy ∈ GW := inG 2036 (by decide +kernel) (by decide +kernel)
theorem q_2037 : Cond.code yX12_pairsBy cX12_pairsBy 4 (some .int) ∈ GW := inG 2037 (by decide +kernel) (by decide +kernel)
theorem q_2042 : Cond.methodLink RX12 499 yX12_roomOf ∈ GW := inG 2042 (by decide +kernel) (by decide +kernel)
theorem q_2044 : Cond.instanceMethod yX12_roomOf ∈ GW := inG 2044 (by decide +kernel) (by decide +kernel)
theorem q_2045 : Cond.code yX12_roomOf cX12_roomOf 5 (some .int) ∈ GW := inG 2045 (by decide +kernel) (by decide +kernel)
theorem q_2046 : Cond.methodLink RX12 493 yX12_mateOf ∈ GW := inG 2046 (by decide +kernel) (by decide +kernel)
theorem q_2048 : Cond.instanceMethod yX12_mateOf ∈ GW := inG 2048 (by decide +kernel) (by decide +kernel)
theorem q_2049 : Cond.code yX12_mateOf cX12_mateOf 4 (some .int) ∈ GW := inG 2049 (by decide +kernel) (by decide +kernel)
theorem hdV_X12_bestStep : yX12_bestStep.cls = RX12 ∧ yX12_bestStep.cls ≠ "java/lang/invoke/MethodHandle" ∧ yX12_bestStep.cls ≠ "java/lang/invoke/VarHandle" ∧ (parseMethodDescriptor yX12_bestStep.desc).map (fun d => d.parameters.length) = some 3 := by decide +kernel
theorem hdV_X12_byStep : yX12_byStep.cls = RX12 ∧ yX12_byStep.cls ≠ "java/lang/invoke/MethodHandle" ∧ yX12_byStep.cls ≠ "java/lang/invoke/VarHandle" ∧ (parseMethodDescriptor yX12_byStep.desc).map (fun d => d.parameters.length) = some 4 := by decide +kernel
theorem hdV_X12_doneBy : yX12_doneBy.cls = RX12 ∧ yX12_doneBy.cls ≠ "java/lang/invoke/MethodHandle" ∧ yX12_doneBy.cls ≠ "java/lang/invoke/VarHandle" ∧ (parseMethodDescriptor yX12_doneBy.desc).map (fun d => d.parameters.length) = some 4 := by decide +kernel
theorem hdV_X12_findsPairs : yX12_findsPairs.cls = RX12 ∧ yX12_findsPairs.cls ≠ "java/lang/invoke/MethodHandle" ∧ yX12_findsPairs.cls ≠ "java/lang/invoke/VarHandle" ∧ (parseMethodDescriptor yX12_findsPairs.desc).map (fun d => d.parameters.length) = some 0 := by decide +kernel
theorem hdV_X12_findsPlans : yX12_findsPlans.cls = RX12 ∧ yX12_findsPlans.cls ≠ "java/lang/invoke/MethodHandle" ∧ yX12_findsPlans.cls ≠ "java/lang/invoke/VarHandle" ∧ (parseMethodDescriptor yX12_findsPlans.desc).map (fun d => d.parameters.length) = some 1 := by decide +kernel
theorem hdV_X12_lowest : yX12_lowest.cls = RX12 ∧ yX12_lowest.cls ≠ "java/lang/invoke/MethodHandle" ∧ yX12_lowest.cls ≠ "java/lang/invoke/VarHandle" ∧ (parseMethodDescriptor yX12_lowest.desc).map (fun d => d.parameters.length) = some 1 := by decide +kernel
theorem hdV_X12_mateOf : yX12_mateOf.cls = RX12 ∧ yX12_mateOf.cls ≠ "java/lang/invoke/MethodHandle" ∧ yX12_mateOf.cls ≠ "java/lang/invoke/VarHandle" ∧ (parseMethodDescriptor yX12_mateOf.desc).map (fun d => d.parameters.length) = some 1 := by decide +kernel
theorem hdV_X12_mends : yX12_mends.cls = RX12 ∧ yX12_mends.cls ≠ "java/lang/invoke/MethodHandle" ∧ yX12_mends.cls ≠ "java/lang/invoke/VarHandle" ∧ (parseMethodDescriptor yX12_mends.desc).map (fun d => d.parameters.length) = some 0 := by decide +kernel
theorem hdV_X12_pairsBy : yX12_pairsBy.cls = RX12 ∧ yX12_pairsBy.cls ≠ "java/lang/invoke/MethodHandle" ∧ yX12_pairsBy.cls ≠ "java/lang/invoke/VarHandle" ∧ (parseMethodDescriptor yX12_pairsBy.desc).map (fun d => d.parameters.length) = some 3 := by decide +kernel
theorem hdV_X12_planAt : yX12_planAt.cls = RX12 ∧ yX12_planAt.cls ≠ "java/lang/invoke/MethodHandle" ∧ yX12_planAt.cls ≠ "java/lang/invoke/VarHandle" ∧ (parseMethodDescriptor yX12_planAt.desc).map (fun d => d.parameters.length) = some 3 := by decide +kernel
theorem hdV_X12_roomOf : yX12_roomOf.cls = RX12 ∧ yX12_roomOf.cls ≠ "java/lang/invoke/MethodHandle" ∧ yX12_roomOf.cls ≠ "java/lang/invoke/VarHandle" ∧ (parseMethodDescriptor yX12_roomOf.desc).map (fun d => d.parameters.length) = some 1 := by decide +kernel
theorem hdV_X12_worthOf : yX12_worthOf.cls = RX12 ∧ yX12_worthOf.cls ≠ "java/lang/invoke/MethodHandle" ∧ yX12_worthOf.cls ≠ "java/lang/invoke/VarHandle" ∧ (parseMethodDescriptor yX12_worthOf.desc).map (fun d => d.parameters.length) = some 1 := by decide +kernel
