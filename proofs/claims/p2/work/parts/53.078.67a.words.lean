theorem dX2_endParts_0 : decode cX2_endParts 0 = .ok (.aload_n 0, 1) := by decide +kernel
theorem dX2_endParts_1 : decode cX2_endParts 1 = .ok (.invokevirtual 104, 3) := by decide +kernel
theorem dX2_endParts_4 : decode cX2_endParts 4 = .ok (.iconst 0, 1) := by decide +kernel
theorem dX2_endParts_5 : decode cX2_endParts 5 = .ok (.istore_n 2, 1) := by decide +kernel
theorem dX2_endParts_6 : decode cX2_endParts 6 = .ok (.iload_n 2, 1) := by decide +kernel
theorem dX2_endParts_7 : decode cX2_endParts 7 = .ok (.bipush 8, 2) := by decide +kernel
theorem dX2_endParts_9 : decode cX2_endParts 9 = .ok (.if_icmp .ge 77, 3) := by decide +kernel
theorem dX2_endParts_12 : decode cX2_endParts 12 = .ok (.aload_n 1, 1) := by decide +kernel
theorem dX2_endParts_13 : decode cX2_endParts 13 = .ok (.getfield 43, 3) := by decide +kernel
theorem dX2_endParts_16 : decode cX2_endParts 16 = .ok (.bipush 41, 2) := by decide +kernel
theorem dX2_endParts_18 : decode cX2_endParts 18 = .ok (.if_icmp .ne 68, 3) := by decide +kernel
theorem dX2_endParts_21 : decode cX2_endParts 21 = .ok (.aload_n 0, 1) := by decide +kernel
theorem dX2_endParts_22 : decode cX2_endParts 22 = .ok (.getfield 82, 3) := by decide +kernel
theorem dX2_endParts_25 : decode cX2_endParts 25 = .ok (.ifCond .le 61, 3) := by decide +kernel
theorem dX2_endParts_28 : decode cX2_endParts 28 = .ok (.aload_n 0, 1) := by decide +kernel
theorem dX2_endParts_29 : decode cX2_endParts 29 = .ok (.sipush 258, 3) := by decide +kernel
theorem dX2_endParts_32 : decode cX2_endParts 32 = .ok (.invokevirtual 98, 3) := by decide +kernel
theorem dX2_endParts_35 : decode cX2_endParts 35 = .ok (.aload_n 0, 1) := by decide +kernel
theorem dX2_endParts_36 : decode cX2_endParts 36 = .ok (.getfield 79, 3) := by decide +kernel
theorem dX2_endParts_39 : decode cX2_endParts 39 = .ok (.ifCond .le 13, 3) := by decide +kernel
theorem dX2_endParts_42 : decode cX2_endParts 42 = .ok (.aload_n 0, 1) := by decide +kernel
theorem dX2_endParts_43 : decode cX2_endParts 43 = .ok (.dup, 1) := by decide +kernel
theorem dX2_endParts_44 : decode cX2_endParts 44 = .ok (.getfield 79, 3) := by decide +kernel
theorem dX2_endParts_47 : decode cX2_endParts 47 = .ok (.iconst 1, 1) := by decide +kernel
theorem dX2_endParts_48 : decode cX2_endParts 48 = .ok (.isub, 1) := by decide +kernel
theorem dX2_endParts_49 : decode cX2_endParts 49 = .ok (.putfield 79, 3) := by decide +kernel
theorem dX2_endParts_52 : decode cX2_endParts 52 = .ok (.aload_n 0, 1) := by decide +kernel
theorem dX2_endParts_53 : decode cX2_endParts 53 = .ok (.dup, 1) := by decide +kernel
theorem dX2_endParts_54 : decode cX2_endParts 54 = .ok (.getfield 82, 3) := by decide +kernel
theorem dX2_endParts_57 : decode cX2_endParts 57 = .ok (.iconst 1, 1) := by decide +kernel
theorem dX2_endParts_58 : decode cX2_endParts 58 = .ok (.isub, 1) := by decide +kernel
theorem dX2_endParts_59 : decode cX2_endParts 59 = .ok (.putfield 82, 3) := by decide +kernel
theorem dX2_endParts_62 : decode cX2_endParts 62 = .ok (.aload_n 0, 1) := by decide +kernel
theorem dX2_endParts_63 : decode cX2_endParts 63 = .ok (.dup, 1) := by decide +kernel
theorem dX2_endParts_64 : decode cX2_endParts 64 = .ok (.getfield 85, 3) := by decide +kernel
theorem dX2_endParts_67 : decode cX2_endParts 67 = .ok (.iconst 1, 1) := by decide +kernel
theorem dX2_endParts_68 : decode cX2_endParts 68 = .ok (.isub, 1) := by decide +kernel
theorem dX2_endParts_69 : decode cX2_endParts 69 = .ok (.putfield 85, 3) := by decide +kernel
theorem dX2_endParts_72 : decode cX2_endParts 72 = .ok (.aload_n 1, 1) := by decide +kernel
theorem dX2_endParts_73 : decode cX2_endParts 73 = .ok (.invokevirtual 57, 3) := by decide +kernel
theorem dX2_endParts_76 : decode cX2_endParts 76 = .ok (.aload_n 0, 1) := by decide +kernel
theorem dX2_endParts_77 : decode cX2_endParts 77 = .ok (.invokevirtual 104, 3) := by decide +kernel
theorem dX2_endParts_80 : decode cX2_endParts 80 = .ok (.iinc 2 1, 3) := by decide +kernel
theorem dX2_endParts_83 : decode cX2_endParts 83 = .ok (.goto (-77), 3) := by decide +kernel
theorem dX2_endParts_86 : decode cX2_endParts 86 = .ok (.return_, 1) := by decide +kernel
theorem dX2_openPart_0 : decode cX2_openPart 0 = .ok (.aload_n 0, 1) := by decide +kernel
theorem dX2_openPart_1 : decode cX2_openPart 1 = .ok (.getfield 85, 3) := by decide +kernel
theorem dX2_openPart_4 : decode cX2_openPart 4 = .ok (.bipush 8, 2) := by decide +kernel
theorem dX2_openPart_6 : decode cX2_openPart 6 = .ok (.if_icmp .lt 8, 3) := by decide +kernel
theorem dX2_openPart_9 : decode cX2_openPart 9 = .ok (.aload_n 1, 1) := by decide +kernel
theorem dX2_openPart_10 : decode cX2_openPart 10 = .ok (.iconst 3, 1) := by decide +kernel
theorem dX2_openPart_11 : decode cX2_openPart 11 = .ok (.invokevirtual 46, 3) := by decide +kernel
theorem dX2_openPart_14 : decode cX2_openPart 14 = .ok (.aload_n 0, 1) := by decide +kernel
theorem dX2_openPart_15 : decode cX2_openPart 15 = .ok (.dup, 1) := by decide +kernel
theorem dX2_openPart_16 : decode cX2_openPart 16 = .ok (.getfield 85, 3) := by decide +kernel
theorem dX2_openPart_19 : decode cX2_openPart 19 = .ok (.iconst 1, 1) := by decide +kernel
theorem dX2_openPart_20 : decode cX2_openPart 20 = .ok (.iadd, 1) := by decide +kernel
theorem dX2_openPart_21 : decode cX2_openPart 21 = .ok (.putfield 85, 3) := by decide +kernel
theorem dX2_openPart_24 : decode cX2_openPart 24 = .ok (.aload_n 1, 1) := by decide +kernel
theorem dX2_openPart_25 : decode cX2_openPart 25 = .ok (.getfield 43, 3) := by decide +kernel
theorem dX2_openPart_28 : decode cX2_openPart 28 = .ok (.bipush 40, 2) := by decide +kernel
theorem dX2_openPart_30 : decode cX2_openPart 30 = .ok (.if_icmp .ne 13, 3) := by decide +kernel
theorem dX2_openPart_33 : decode cX2_openPart 33 = .ok (.aload_n 0, 1) := by decide +kernel
theorem dX2_openPart_34 : decode cX2_openPart 34 = .ok (.dup, 1) := by decide +kernel
theorem dX2_openPart_35 : decode cX2_openPart 35 = .ok (.getfield 82, 3) := by decide +kernel
theorem dX2_openPart_38 : decode cX2_openPart 38 = .ok (.iconst 1, 1) := by decide +kernel
theorem dX2_openPart_39 : decode cX2_openPart 39 = .ok (.iadd, 1) := by decide +kernel
theorem dX2_openPart_40 : decode cX2_openPart 40 = .ok (.putfield 82, 3) := by decide +kernel
theorem dX2_openPart_43 : decode cX2_openPart 43 = .ok (.aload_n 0, 1) := by decide +kernel
theorem dX2_openPart_44 : decode cX2_openPart 44 = .ok (.aload_n 1, 1) := by decide +kernel
theorem dX2_openPart_45 : decode cX2_openPart 45 = .ok (.getfield 43, 3) := by decide +kernel
theorem dX2_openPart_48 : decode cX2_openPart 48 = .ok (.invokevirtual 101, 3) := by decide +kernel
theorem dX2_openPart_51 : decode cX2_openPart 51 = .ok (.aload_n 1, 1) := by decide +kernel
theorem dX2_openPart_52 : decode cX2_openPart 52 = .ok (.invokevirtual 57, 3) := by decide +kernel
theorem dX2_openPart_55 : decode cX2_openPart 55 = .ok (.return_, 1) := by decide +kernel
theorem dX2_read_0 : decode cX2_read 0 = .ok (.aload_n 0, 1) := by decide +kernel
theorem dX2_read_1 : decode cX2_read 1 = .ok (.iconst 0, 1) := by decide +kernel
theorem dX2_read_2 : decode cX2_read 2 = .ok (.putfield 34, 3) := by decide +kernel
theorem dX2_read_5 : decode cX2_read 5 = .ok (.aload_n 0, 1) := by decide +kernel
theorem dX2_read_6 : decode cX2_read 6 = .ok (.iconst 0, 1) := by decide +kernel
theorem dX2_read_7 : decode cX2_read 7 = .ok (.putfield 30, 3) := by decide +kernel
theorem dX2_read_10 : decode cX2_read 10 = .ok (.iconst 0, 1) := by decide +kernel
theorem dX2_read_11 : decode cX2_read 11 = .ok (.istore_n 2, 1) := by decide +kernel
theorem dX2_read_12 : decode cX2_read 12 = .ok (.iload_n 2, 1) := by decide +kernel
theorem dX2_read_13 : decode cX2_read 13 = .ok (.sipush 400, 3) := by decide +kernel
theorem dX2_read_16 : decode cX2_read 16 = .ok (.if_icmp .gt 133, 3) := by decide +kernel
theorem dX2_read_19 : decode cX2_read 19 = .ok (.aload_n 1, 1) := by decide +kernel
theorem dX2_read_20 : decode cX2_read 20 = .ok (.invokevirtual 37, 3) := by decide +kernel
theorem dX2_read_23 : decode cX2_read 23 = .ok (.ifCond .eq 126, 3) := by decide +kernel
theorem dX2_read_26 : decode cX2_read 26 = .ok (.aload_n 0, 1) := by decide +kernel
theorem dX2_read_27 : decode cX2_read 27 = .ok (.getfield 30, 3) := by decide +kernel
theorem dX2_read_30 : decode cX2_read 30 = .ok (.bipush 16, 2) := by decide +kernel
theorem dX2_read_32 : decode cX2_read 32 = .ok (.if_icmp .lt 23, 3) := by decide +kernel
theorem dX2_read_35 : decode cX2_read 35 = .ok (.aload_n 1, 1) := by decide +kernel
theorem dX2_read_36 : decode cX2_read 36 = .ok (.aload_n 1, 1) := by decide +kernel
theorem dX2_read_37 : decode cX2_read 37 = .ok (.getfield 43, 3) := by decide +kernel
theorem dX2_read_40 : decode cX2_read 40 = .ok (.sipush 256, 3) := by decide +kernel
theorem dX2_read_43 : decode cX2_read 43 = .ok (.if_icmp .ne 7, 3) := by decide +kernel
theorem dX2_read_46 : decode cX2_read 46 = .ok (.iconst 3, 1) := by decide +kernel
theorem dX2_read_47 : decode cX2_read 47 = .ok (.goto 4, 3) := by decide +kernel
theorem dX2_read_50 : decode cX2_read 50 = .ok (.iconst 1, 1) := by decide +kernel
theorem dX2_read_51 : decode cX2_read 51 = .ok (.invokevirtual 46, 3) := by decide +kernel
theorem dX2_read_54 : decode cX2_read 54 = .ok (.return_, 1) := by decide +kernel
theorem dX2_read_55 : decode cX2_read 55 = .ok (.aload_n 1, 1) := by decide +kernel
theorem dX2_read_56 : decode cX2_read 56 = .ok (.sipush 256, 3) := by decide +kernel
theorem dX2_read_59 : decode cX2_read 59 = .ok (.invokevirtual 50, 3) := by decide +kernel
theorem dX2_read_62 : decode cX2_read 62 = .ok (.aload_n 0, 1) := by decide +kernel
theorem dX2_read_63 : decode cX2_read 63 = .ok (.aload_n 1, 1) := by decide +kernel
theorem dX2_read_64 : decode cX2_read 64 = .ok (.invokevirtual 53, 3) := by decide +kernel
theorem dX2_read_67 : decode cX2_read 67 = .ok (.aload_n 0, 1) := by decide +kernel
theorem dX2_read_68 : decode cX2_read 68 = .ok (.getfield 15, 3) := by decide +kernel
theorem dX2_read_71 : decode cX2_read 71 = .ok (.iconst 2, 1) := by decide +kernel
theorem dX2_read_72 : decode cX2_read 72 = .ok (.aload_n 0, 1) := by decide +kernel
theorem dX2_read_73 : decode cX2_read 73 = .ok (.getfield 30, 3) := by decide +kernel
theorem dX2_read_76 : decode cX2_read 76 = .ok (.imul, 1) := by decide +kernel
theorem dX2_read_77 : decode cX2_read 77 = .ok (.iconst 1, 1) := by decide +kernel
theorem dX2_read_78 : decode cX2_read 78 = .ok (.iadd, 1) := by decide +kernel
theorem dX2_read_79 : decode cX2_read 79 = .ok (.aload_n 0, 1) := by decide +kernel
theorem dX2_read_80 : decode cX2_read 80 = .ok (.getfield 34, 3) := by decide +kernel
theorem dX2_read_83 : decode cX2_read 83 = .ok (.iastore, 1) := by decide +kernel
theorem dX2_read_84 : decode cX2_read 84 = .ok (.aload_n 1, 1) := by decide +kernel
theorem dX2_read_85 : decode cX2_read 85 = .ok (.getfield 43, 3) := by decide +kernel
theorem dX2_read_88 : decode cX2_read 88 = .ok (.sipush 257, 3) := by decide +kernel
theorem dX2_read_91 : decode cX2_read 91 = .ok (.if_icmp .ne 12, 3) := by decide +kernel
theorem dX2_read_94 : decode cX2_read 94 = .ok (.aload_n 1, 1) := by decide +kernel
theorem dX2_read_95 : decode cX2_read 95 = .ok (.invokevirtual 57, 3) := by decide +kernel
theorem dX2_read_98 : decode cX2_read 98 = .ok (.aload_n 0, 1) := by decide +kernel
theorem dX2_read_99 : decode cX2_read 99 = .ok (.aload_n 1, 1) := by decide +kernel
theorem dX2_read_100 : decode cX2_read 100 = .ok (.invokevirtual 60, 3) := by decide +kernel
theorem dX2_read_103 : decode cX2_read 103 = .ok (.aload_n 1, 1) := by decide +kernel
theorem dX2_read_104 : decode cX2_read 104 = .ok (.bipush 59, 2) := by decide +kernel
theorem dX2_read_106 : decode cX2_read 106 = .ok (.invokevirtual 50, 3) := by decide +kernel
theorem dX2_read_109 : decode cX2_read 109 = .ok (.aload_n 0, 1) := by decide +kernel
theorem dX2_read_110 : decode cX2_read 110 = .ok (.getfield 15, 3) := by decide +kernel
theorem dX2_read_113 : decode cX2_read 113 = .ok (.iconst 2, 1) := by decide +kernel
theorem dX2_read_114 : decode cX2_read 114 = .ok (.aload_n 0, 1) := by decide +kernel
theorem dX2_read_115 : decode cX2_read 115 = .ok (.getfield 30, 3) := by decide +kernel
theorem dX2_read_118 : decode cX2_read 118 = .ok (.imul, 1) := by decide +kernel
theorem dX2_read_119 : decode cX2_read 119 = .ok (.iconst 2, 1) := by decide +kernel
theorem dX2_read_120 : decode cX2_read 120 = .ok (.iadd, 1) := by decide +kernel
theorem dX2_read_121 : decode cX2_read 121 = .ok (.aload_n 0, 1) := by decide +kernel
theorem dX2_read_122 : decode cX2_read 122 = .ok (.getfield 34, 3) := by decide +kernel
theorem dX2_read_125 : decode cX2_read 125 = .ok (.iastore, 1) := by decide +kernel
theorem dX2_read_126 : decode cX2_read 126 = .ok (.aload_n 1, 1) := by decide +kernel
theorem dX2_read_127 : decode cX2_read 127 = .ok (.getfield 63, 3) := by decide +kernel
theorem dX2_read_130 : decode cX2_read 130 = .ok (.ifCond .ne 13, 3) := by decide +kernel
theorem dX2_read_133 : decode cX2_read 133 = .ok (.aload_n 0, 1) := by decide +kernel
theorem dX2_read_134 : decode cX2_read 134 = .ok (.dup, 1) := by decide +kernel
theorem dX2_read_135 : decode cX2_read 135 = .ok (.getfield 30, 3) := by decide +kernel
theorem dX2_read_138 : decode cX2_read 138 = .ok (.iconst 1, 1) := by decide +kernel
theorem dX2_read_139 : decode cX2_read 139 = .ok (.iadd, 1) := by decide +kernel
theorem dX2_read_140 : decode cX2_read 140 = .ok (.putfield 30, 3) := by decide +kernel
theorem dX2_read_143 : decode cX2_read 143 = .ok (.iinc 2 1, 3) := by decide +kernel
theorem dX2_read_146 : decode cX2_read 146 = .ok (.goto (-134), 3) := by decide +kernel
theorem dX2_read_149 : decode cX2_read 149 = .ok (.return_, 1) := by decide +kernel
theorem dX2_readCondition_0 : decode cX2_readCondition 0 = .ok (.aload_n 0, 1) := by decide +kernel
theorem dX2_readCondition_1 : decode cX2_readCondition 1 = .ok (.iconst 0, 1) := by decide +kernel
theorem dX2_readCondition_2 : decode cX2_readCondition 2 = .ok (.putfield 79, 3) := by decide +kernel
theorem dX2_readCondition_5 : decode cX2_readCondition 5 = .ok (.aload_n 0, 1) := by decide +kernel
theorem dX2_readCondition_6 : decode cX2_readCondition 6 = .ok (.iconst 0, 1) := by decide +kernel
theorem dX2_readCondition_7 : decode cX2_readCondition 7 = .ok (.putfield 82, 3) := by decide +kernel
theorem dX2_readCondition_10 : decode cX2_readCondition 10 = .ok (.aload_n 0, 1) := by decide +kernel
theorem dX2_readCondition_11 : decode cX2_readCondition 11 = .ok (.iconst 0, 1) := by decide +kernel
theorem dX2_readCondition_12 : decode cX2_readCondition 12 = .ok (.putfield 85, 3) := by decide +kernel
theorem dX2_readCondition_15 : decode cX2_readCondition 15 = .ok (.iconst 0, 1) := by decide +kernel
theorem dX2_readCondition_16 : decode cX2_readCondition 16 = .ok (.istore_n 2, 1) := by decide +kernel
theorem dX2_readCondition_17 : decode cX2_readCondition 17 = .ok (.iload_n 2, 1) := by decide +kernel
theorem dX2_readCondition_18 : decode cX2_readCondition 18 = .ok (.sipush 400, 3) := by decide +kernel
theorem dX2_readCondition_21 : decode cX2_readCondition 21 = .ok (.if_icmp .gt 111, 3) := by decide +kernel
theorem dX2_readCondition_24 : decode cX2_readCondition 24 = .ok (.aload_n 1, 1) := by decide +kernel
theorem dX2_readCondition_25 : decode cX2_readCondition 25 = .ok (.getfield 63, 3) := by decide +kernel
theorem dX2_readCondition_28 : decode cX2_readCondition 28 = .ok (.ifCond .ne 104, 3) := by decide +kernel
theorem dX2_readCondition_31 : decode cX2_readCondition 31 = .ok (.aload_n 1, 1) := by decide +kernel
theorem dX2_readCondition_32 : decode cX2_readCondition 32 = .ok (.getfield 43, 3) := by decide +kernel
theorem dX2_readCondition_35 : decode cX2_readCondition 35 = .ok (.bipush 40, 2) := by decide +kernel
theorem dX2_readCondition_37 : decode cX2_readCondition 37 = .ok (.if_icmp .eq 13, 3) := by decide +kernel
theorem dX2_readCondition_40 : decode cX2_readCondition 40 = .ok (.aload_n 1, 1) := by decide +kernel
theorem dX2_readCondition_41 : decode cX2_readCondition 41 = .ok (.getfield 43, 3) := by decide +kernel
theorem dX2_readCondition_44 : decode cX2_readCondition 44 = .ok (.sipush 260, 3) := by decide +kernel
theorem dX2_readCondition_47 : decode cX2_readCondition 47 = .ok (.if_icmp .ne 11, 3) := by decide +kernel
theorem dX2_readCondition_50 : decode cX2_readCondition 50 = .ok (.aload_n 0, 1) := by decide +kernel
theorem dX2_readCondition_51 : decode cX2_readCondition 51 = .ok (.aload_n 1, 1) := by decide +kernel
theorem dX2_readCondition_52 : decode cX2_readCondition 52 = .ok (.invokevirtual 88, 3) := by decide +kernel
theorem dX2_readCondition_55 : decode cX2_readCondition 55 = .ok (.goto 71, 3) := by decide +kernel
theorem dX2_readCondition_58 : decode cX2_readCondition 58 = .ok (.aload_n 0, 1) := by decide +kernel
theorem dX2_readCondition_59 : decode cX2_readCondition 59 = .ok (.aload_n 1, 1) := by decide +kernel
theorem dX2_readCondition_60 : decode cX2_readCondition 60 = .ok (.invokevirtual 53, 3) := by decide +kernel
theorem dX2_readCondition_63 : decode cX2_readCondition 63 = .ok (.aload_n 1, 1) := by decide +kernel
theorem dX2_readCondition_64 : decode cX2_readCondition 64 = .ok (.invokevirtual 91, 3) := by decide +kernel
theorem dX2_readCondition_67 : decode cX2_readCondition 67 = .ok (.istore_n 3, 1) := by decide +kernel
theorem dX2_readCondition_68 : decode cX2_readCondition 68 = .ok (.aload_n 0, 1) := by decide +kernel
theorem dX2_readCondition_69 : decode cX2_readCondition 69 = .ok (.aload_n 1, 1) := by decide +kernel
theorem dX2_readCondition_70 : decode cX2_readCondition 70 = .ok (.invokevirtual 53, 3) := by decide +kernel
theorem dX2_readCondition_73 : decode cX2_readCondition 73 = .ok (.aload_n 0, 1) := by decide +kernel
theorem dX2_readCondition_74 : decode cX2_readCondition 74 = .ok (.iload_n 3, 1) := by decide +kernel
theorem dX2_readCondition_75 : decode cX2_readCondition 75 = .ok (.invokevirtual 69, 3) := by decide +kernel
theorem dX2_readCondition_78 : decode cX2_readCondition 78 = .ok (.aload_n 0, 1) := by decide +kernel
theorem dX2_readCondition_79 : decode cX2_readCondition 79 = .ok (.aload_n 1, 1) := by decide +kernel
theorem dX2_readCondition_80 : decode cX2_readCondition 80 = .ok (.invokevirtual 95, 3) := by decide +kernel
theorem dX2_readCondition_83 : decode cX2_readCondition 83 = .ok (.aload_n 1, 1) := by decide +kernel
theorem dX2_readCondition_84 : decode cX2_readCondition 84 = .ok (.getfield 43, 3) := by decide +kernel
theorem dX2_readCondition_87 : decode cX2_readCondition 87 = .ok (.sipush 259, 3) := by decide +kernel
theorem dX2_readCondition_90 : decode cX2_readCondition 90 = .ok (.if_icmp .eq 16, 3) := by decide +kernel
theorem dX2_readCondition_93 : decode cX2_readCondition 93 = .ok (.aload_n 1, 1) := by decide +kernel
theorem dX2_readCondition_94 : decode cX2_readCondition 94 = .ok (.getfield 43, 3) := by decide +kernel
theorem dX2_readCondition_97 : decode cX2_readCondition 97 = .ok (.sipush 258, 3) := by decide +kernel
theorem dX2_readCondition_100 : decode cX2_readCondition 100 = .ok (.if_icmp .eq 6, 3) := by decide +kernel
theorem dX2_readCondition_103 : decode cX2_readCondition 103 = .ok (.goto 29, 3) := by decide +kernel
theorem dX2_readCondition_106 : decode cX2_readCondition 106 = .ok (.aload_n 0, 1) := by decide +kernel
theorem dX2_readCondition_107 : decode cX2_readCondition 107 = .ok (.aload_n 1, 1) := by decide +kernel
theorem dX2_readCondition_108 : decode cX2_readCondition 108 = .ok (.getfield 43, 3) := by decide +kernel
theorem dX2_readCondition_111 : decode cX2_readCondition 111 = .ok (.invokevirtual 98, 3) := by decide +kernel
theorem dX2_readCondition_114 : decode cX2_readCondition 114 = .ok (.aload_n 0, 1) := by decide +kernel
theorem dX2_readCondition_115 : decode cX2_readCondition 115 = .ok (.aload_n 1, 1) := by decide +kernel
theorem dX2_readCondition_116 : decode cX2_readCondition 116 = .ok (.getfield 43, 3) := by decide +kernel
theorem dX2_readCondition_119 : decode cX2_readCondition 119 = .ok (.invokevirtual 101, 3) := by decide +kernel
theorem dX2_readCondition_122 : decode cX2_readCondition 122 = .ok (.aload_n 1, 1) := by decide +kernel
theorem dX2_readCondition_123 : decode cX2_readCondition 123 = .ok (.invokevirtual 57, 3) := by decide +kernel
theorem dX2_readCondition_126 : decode cX2_readCondition 126 = .ok (.iinc 2 1, 3) := by decide +kernel
theorem dX2_readCondition_129 : decode cX2_readCondition 129 = .ok (.goto (-112), 3) := by decide +kernel
theorem dX2_readCondition_132 : decode cX2_readCondition 132 = .ok (.aload_n 0, 1) := by decide +kernel
theorem dX2_readCondition_133 : decode cX2_readCondition 133 = .ok (.getfield 82, 3) := by decide +kernel
theorem dX2_readCondition_136 : decode cX2_readCondition 136 = .ok (.ifCond .le 8, 3) := by decide +kernel
theorem dX2_readCondition_139 : decode cX2_readCondition 139 = .ok (.aload_n 1, 1) := by decide +kernel
theorem dX2_readCondition_140 : decode cX2_readCondition 140 = .ok (.iconst 1, 1) := by decide +kernel
theorem dX2_readCondition_141 : decode cX2_readCondition 141 = .ok (.invokevirtual 46, 3) := by decide +kernel
theorem dX2_readCondition_144 : decode cX2_readCondition 144 = .ok (.aload_n 0, 1) := by decide +kernel
theorem dX2_readCondition_145 : decode cX2_readCondition 145 = .ok (.sipush 258, 3) := by decide +kernel
theorem dX2_readCondition_148 : decode cX2_readCondition 148 = .ok (.invokevirtual 98, 3) := by decide +kernel
theorem dX2_readCondition_151 : decode cX2_readCondition 151 = .ok (.return_, 1) := by decide +kernel
theorem dX2_readOperand_0 : decode cX2_readOperand 0 = .ok (.aload_n 1, 1) := by decide +kernel
theorem dX2_readOperand_1 : decode cX2_readOperand 1 = .ok (.getfield 43, 3) := by decide +kernel
theorem dX2_readOperand_4 : decode cX2_readOperand 4 = .ok (.iconst 1, 1) := by decide +kernel
theorem dX2_readOperand_5 : decode cX2_readOperand 5 = .ok (.if_icmp .ne 16, 3) := by decide +kernel
theorem dX2_readOperand_8 : decode cX2_readOperand 8 = .ok (.aload_n 0, 1) := by decide +kernel
theorem dX2_readOperand_9 : decode cX2_readOperand 9 = .ok (.iconst (-1), 1) := by decide +kernel
theorem dX2_readOperand_10 : decode cX2_readOperand 10 = .ok (.aload_n 1, 1) := by decide +kernel
theorem dX2_readOperand_11 : decode cX2_readOperand 11 = .ok (.getfield 76, 3) := by decide +kernel
theorem dX2_readOperand_14 : decode cX2_readOperand 14 = .ok (.isub, 1) := by decide +kernel
theorem dX2_readOperand_15 : decode cX2_readOperand 15 = .ok (.invokevirtual 69, 3) := by decide +kernel
theorem dX2_readOperand_18 : decode cX2_readOperand 18 = .ok (.goto 29, 3) := by decide +kernel
theorem dX2_readOperand_21 : decode cX2_readOperand 21 = .ok (.aload_n 1, 1) := by decide +kernel
theorem dX2_readOperand_22 : decode cX2_readOperand 22 = .ok (.getfield 43, 3) := by decide +kernel
theorem dX2_readOperand_25 : decode cX2_readOperand 25 = .ok (.sipush 261, 3) := by decide +kernel
theorem dX2_readOperand_28 : decode cX2_readOperand 28 = .ok (.if_icmp .lt 14, 3) := by decide +kernel
theorem dX2_readOperand_31 : decode cX2_readOperand 31 = .ok (.aload_n 0, 1) := by decide +kernel
theorem dX2_readOperand_32 : decode cX2_readOperand 32 = .ok (.aload_n 1, 1) := by decide +kernel
theorem dX2_readOperand_33 : decode cX2_readOperand 33 = .ok (.getfield 43, 3) := by decide +kernel
theorem dX2_readOperand_36 : decode cX2_readOperand 36 = .ok (.invokevirtual 69, 3) := by decide +kernel
theorem dX2_readOperand_39 : decode cX2_readOperand 39 = .ok (.goto 8, 3) := by decide +kernel
theorem dX2_readOperand_42 : decode cX2_readOperand 42 = .ok (.aload_n 1, 1) := by decide +kernel
theorem dX2_readOperand_43 : decode cX2_readOperand 43 = .ok (.iconst 1, 1) := by decide +kernel
theorem dX2_readOperand_44 : decode cX2_readOperand 44 = .ok (.invokevirtual 46, 3) := by decide +kernel
theorem dX2_readOperand_47 : decode cX2_readOperand 47 = .ok (.aload_n 1, 1) := by decide +kernel
theorem dX2_readOperand_48 : decode cX2_readOperand 48 = .ok (.invokevirtual 57, 3) := by decide +kernel
theorem dX2_readOperand_51 : decode cX2_readOperand 51 = .ok (.return_, 1) := by decide +kernel
theorem dX2_readSum_0 : decode cX2_readSum 0 = .ok (.iconst 0, 1) := by decide +kernel
theorem dX2_readSum_1 : decode cX2_readSum 1 = .ok (.istore_n 2, 1) := by decide +kernel
theorem dX2_readSum_2 : decode cX2_readSum 2 = .ok (.aload_n 0, 1) := by decide +kernel
theorem dX2_readSum_3 : decode cX2_readSum 3 = .ok (.aload_n 1, 1) := by decide +kernel
theorem dX2_readSum_4 : decode cX2_readSum 4 = .ok (.invokevirtual 66, 3) := by decide +kernel
theorem dX2_readSum_7 : decode cX2_readSum 7 = .ok (.iconst 0, 1) := by decide +kernel
theorem dX2_readSum_8 : decode cX2_readSum 8 = .ok (.istore_n 3, 1) := by decide +kernel
theorem dX2_readSum_9 : decode cX2_readSum 9 = .ok (.iload_n 3, 1) := by decide +kernel
theorem dX2_readSum_10 : decode cX2_readSum 10 = .ok (.sipush 400, 3) := by decide +kernel
theorem dX2_readSum_13 : decode cX2_readSum 13 = .ok (.if_icmp .gt 112, 3) := by decide +kernel
theorem dX2_readSum_16 : decode cX2_readSum 16 = .ok (.aload_n 1, 1) := by decide +kernel
theorem dX2_readSum_17 : decode cX2_readSum 17 = .ok (.getfield 63, 3) := by decide +kernel
theorem dX2_readSum_20 : decode cX2_readSum 20 = .ok (.ifCond .ne 105, 3) := by decide +kernel
theorem dX2_readSum_23 : decode cX2_readSum 23 = .ok (.aload_n 1, 1) := by decide +kernel
theorem dX2_readSum_24 : decode cX2_readSum 24 = .ok (.getfield 43, 3) := by decide +kernel
theorem dX2_readSum_27 : decode cX2_readSum 27 = .ok (.istore 4, 2) := by decide +kernel
theorem dX2_readSum_29 : decode cX2_readSum 29 = .ok (.iload 4, 2) := by decide +kernel
theorem dX2_readSum_31 : decode cX2_readSum 31 = .ok (.bipush 42, 2) := by decide +kernel
theorem dX2_readSum_33 : decode cX2_readSum 33 = .ok (.if_icmp .ne 21, 3) := by decide +kernel
theorem dX2_readSum_36 : decode cX2_readSum 36 = .ok (.aload_n 1, 1) := by decide +kernel
theorem dX2_readSum_37 : decode cX2_readSum 37 = .ok (.invokevirtual 57, 3) := by decide +kernel
theorem dX2_readSum_40 : decode cX2_readSum 40 = .ok (.aload_n 0, 1) := by decide +kernel
theorem dX2_readSum_41 : decode cX2_readSum 41 = .ok (.aload_n 1, 1) := by decide +kernel
theorem dX2_readSum_42 : decode cX2_readSum 42 = .ok (.invokevirtual 66, 3) := by decide +kernel
theorem dX2_readSum_45 : decode cX2_readSum 45 = .ok (.aload_n 0, 1) := by decide +kernel
theorem dX2_readSum_46 : decode cX2_readSum 46 = .ok (.iload 4, 2) := by decide +kernel
theorem dX2_readSum_48 : decode cX2_readSum 48 = .ok (.invokevirtual 69, 3) := by decide +kernel
theorem dX2_readSum_51 : decode cX2_readSum 51 = .ok (.goto 68, 3) := by decide +kernel
theorem dX2_readSum_54 : decode cX2_readSum 54 = .ok (.iload 4, 2) := by decide +kernel
theorem dX2_readSum_56 : decode cX2_readSum 56 = .ok (.bipush 47, 2) := by decide +kernel
theorem dX2_readSum_58 : decode cX2_readSum 58 = .ok (.if_icmp .ne 30, 3) := by decide +kernel
theorem dX2_readSum_61 : decode cX2_readSum 61 = .ok (.aload_n 1, 1) := by decide +kernel
theorem dX2_readSum_62 : decode cX2_readSum 62 = .ok (.invokevirtual 57, 3) := by decide +kernel
theorem dX2_readSum_65 : decode cX2_readSum 65 = .ok (.aload_n 0, 1) := by decide +kernel
theorem dX2_readSum_66 : decode cX2_readSum 66 = .ok (.iconst (-1), 1) := by decide +kernel
theorem dX2_readSum_67 : decode cX2_readSum 67 = .ok (.aload_n 1, 1) := by decide +kernel
theorem dX2_readSum_68 : decode cX2_readSum 68 = .ok (.iconst 1, 1) := by decide +kernel
theorem dX2_readSum_69 : decode cX2_readSum 69 = .ok (.sipush 9999, 3) := by decide +kernel
theorem dX2_readSum_72 : decode cX2_readSum 72 = .ok (.invokevirtual 72, 3) := by decide +kernel
theorem dX2_readSum_75 : decode cX2_readSum 75 = .ok (.isub, 1) := by decide +kernel
theorem dX2_readSum_76 : decode cX2_readSum 76 = .ok (.invokevirtual 69, 3) := by decide +kernel
theorem dX2_readSum_79 : decode cX2_readSum 79 = .ok (.aload_n 0, 1) := by decide +kernel
theorem dX2_readSum_80 : decode cX2_readSum 80 = .ok (.iload 4, 2) := by decide +kernel
theorem dX2_readSum_82 : decode cX2_readSum 82 = .ok (.invokevirtual 69, 3) := by decide +kernel
theorem dX2_readSum_85 : decode cX2_readSum 85 = .ok (.goto 34, 3) := by decide +kernel
theorem dX2_readSum_88 : decode cX2_readSum 88 = .ok (.iload 4, 2) := by decide +kernel
theorem dX2_readSum_90 : decode cX2_readSum 90 = .ok (.bipush 43, 2) := by decide +kernel
theorem dX2_readSum_92 : decode cX2_readSum 92 = .ok (.if_icmp .eq 10, 3) := by decide +kernel
theorem dX2_readSum_95 : decode cX2_readSum 95 = .ok (.iload 4, 2) := by decide +kernel
theorem dX2_readSum_97 : decode cX2_readSum 97 = .ok (.bipush 45, 2) := by decide +kernel
theorem dX2_readSum_99 : decode cX2_readSum 99 = .ok (.if_icmp .ne 26, 3) := by decide +kernel
theorem dX2_readSum_102 : decode cX2_readSum 102 = .ok (.aload_n 0, 1) := by decide +kernel
theorem dX2_readSum_103 : decode cX2_readSum 103 = .ok (.iload_n 2, 1) := by decide +kernel
theorem dX2_readSum_104 : decode cX2_readSum 104 = .ok (.invokevirtual 69, 3) := by decide +kernel
theorem dX2_readSum_107 : decode cX2_readSum 107 = .ok (.iload 4, 2) := by decide +kernel
theorem dX2_readSum_109 : decode cX2_readSum 109 = .ok (.istore_n 2, 1) := by decide +kernel
theorem dX2_readSum_110 : decode cX2_readSum 110 = .ok (.aload_n 1, 1) := by decide +kernel
theorem dX2_readSum_111 : decode cX2_readSum 111 = .ok (.invokevirtual 57, 3) := by decide +kernel
theorem dX2_readSum_114 : decode cX2_readSum 114 = .ok (.aload_n 0, 1) := by decide +kernel
theorem dX2_readSum_115 : decode cX2_readSum 115 = .ok (.aload_n 1, 1) := by decide +kernel
theorem dX2_readSum_116 : decode cX2_readSum 116 = .ok (.invokevirtual 66, 3) := by decide +kernel
theorem dX2_readSum_119 : decode cX2_readSum 119 = .ok (.iinc 3 1, 3) := by decide +kernel
theorem dX2_readSum_122 : decode cX2_readSum 122 = .ok (.goto (-113), 3) := by decide +kernel
theorem dX2_readSum_125 : decode cX2_readSum 125 = .ok (.aload_n 0, 1) := by decide +kernel
theorem dX2_readSum_126 : decode cX2_readSum 126 = .ok (.iload_n 2, 1) := by decide +kernel
theorem dX2_readSum_127 : decode cX2_readSum 127 = .ok (.invokevirtual 69, 3) := by decide +kernel
theorem dX2_readSum_130 : decode cX2_readSum 130 = .ok (.return_, 1) := by decide +kernel
theorem dX3_read_0 : decode cX3_read 0 = .ok (.aload_n 0, 1) := by decide +kernel
theorem dX3_read_1 : decode cX3_read 1 = .ok (.iconst 0, 1) := by decide +kernel
theorem dX3_read_2 : decode cX3_read 2 = .ok (.putfield 33, 3) := by decide +kernel
theorem dX3_read_5 : decode cX3_read 5 = .ok (.iconst 0, 1) := by decide +kernel
theorem dX3_read_6 : decode cX3_read 6 = .ok (.istore_n 3, 1) := by decide +kernel
theorem dX3_read_7 : decode cX3_read 7 = .ok (.iload_n 3, 1) := by decide +kernel
theorem dX3_read_8 : decode cX3_read 8 = .ok (.sipush 400, 3) := by decide +kernel
theorem dX3_read_11 : decode cX3_read 11 = .ok (.if_icmp .gt 46, 3) := by decide +kernel
theorem dX3_read_14 : decode cX3_read 14 = .ok (.aload_n 1, 1) := by decide +kernel
theorem dX3_read_15 : decode cX3_read 15 = .ok (.invokevirtual 37, 3) := by decide +kernel
theorem dX3_read_18 : decode cX3_read 18 = .ok (.ifCond .eq 39, 3) := by decide +kernel
theorem dX3_read_21 : decode cX3_read 21 = .ok (.aload_n 0, 1) := by decide +kernel
theorem dX3_read_22 : decode cX3_read 22 = .ok (.getfield 33, 3) := by decide +kernel
theorem dX3_read_25 : decode cX3_read 25 = .ok (.bipush 10, 2) := by decide +kernel
theorem dX3_read_27 : decode cX3_read 27 = .ok (.if_icmp .lt 18, 3) := by decide +kernel
theorem dX3_read_30 : decode cX3_read 30 = .ok (.aload_n 1, 1) := by decide +kernel
theorem dX3_read_31 : decode cX3_read 31 = .ok (.getfield 43, 3) := by decide +kernel
theorem dX3_read_34 : decode cX3_read 34 = .ok (.sipush 256, 3) := by decide +kernel
theorem dX3_read_37 : decode cX3_read 37 = .ok (.if_icmp .ne 8, 3) := by decide +kernel
theorem dX3_read_40 : decode cX3_read 40 = .ok (.aload_n 1, 1) := by decide +kernel
theorem dX3_read_41 : decode cX3_read 41 = .ok (.iconst 3, 1) := by decide +kernel
theorem dX3_read_42 : decode cX3_read 42 = .ok (.invokevirtual 45, 3) := by decide +kernel
theorem dX3_read_45 : decode cX3_read 45 = .ok (.aload_n 0, 1) := by decide +kernel
theorem dX3_read_46 : decode cX3_read 46 = .ok (.aload_n 1, 1) := by decide +kernel
theorem dX3_read_47 : decode cX3_read 47 = .ok (.iload_n 2, 1) := by decide +kernel
theorem dX3_read_48 : decode cX3_read 48 = .ok (.invokevirtual 49, 3) := by decide +kernel
theorem dX3_read_51 : decode cX3_read 51 = .ok (.iinc 3 1, 3) := by decide +kernel
theorem dX3_read_54 : decode cX3_read 54 = .ok (.goto (-47), 3) := by decide +kernel
theorem dX3_read_57 : decode cX3_read 57 = .ok (.return_, 1) := by decide +kernel
theorem dX3_readNeed_0 : decode cX3_readNeed 0 = .ok (.aload_n 1, 1) := by decide +kernel
theorem dX3_readNeed_1 : decode cX3_readNeed 1 = .ok (.sipush 256, 3) := by decide +kernel
theorem dX3_readNeed_4 : decode cX3_readNeed 4 = .ok (.invokevirtual 53, 3) := by decide +kernel
theorem dX3_readNeed_7 : decode cX3_readNeed 7 = .ok (.aload_n 1, 1) := by decide +kernel
theorem dX3_readNeed_8 : decode cX3_readNeed 8 = .ok (.getfield 43, 3) := by decide +kernel
theorem dX3_readNeed_11 : decode cX3_readNeed 11 = .ok (.sipush 257, 3) := by decide +kernel
theorem dX3_readNeed_14 : decode cX3_readNeed 14 = .ok (.isub, 1) := by decide +kernel
theorem dX3_readNeed_15 : decode cX3_readNeed 15 = .ok (.istore_n 3, 1) := by decide +kernel
theorem dX3_readNeed_16 : decode cX3_readNeed 16 = .ok (.aload_n 1, 1) := by decide +kernel
theorem dX3_readNeed_17 : decode cX3_readNeed 17 = .ok (.getfield 43, 3) := by decide +kernel
theorem dX3_readNeed_20 : decode cX3_readNeed 20 = .ok (.sipush 257, 3) := by decide +kernel
theorem dX3_readNeed_23 : decode cX3_readNeed 23 = .ok (.if_icmp .lt 13, 3) := by decide +kernel
theorem dX3_readNeed_26 : decode cX3_readNeed 26 = .ok (.aload_n 1, 1) := by decide +kernel
theorem dX3_readNeed_27 : decode cX3_readNeed 27 = .ok (.getfield 43, 3) := by decide +kernel
theorem dX3_readNeed_30 : decode cX3_readNeed 30 = .ok (.sipush 260, 3) := by decide +kernel
theorem dX3_readNeed_33 : decode cX3_readNeed 33 = .ok (.if_icmp .le 8, 3) := by decide +kernel
theorem dX3_readNeed_36 : decode cX3_readNeed 36 = .ok (.aload_n 1, 1) := by decide +kernel
theorem dX3_readNeed_37 : decode cX3_readNeed 37 = .ok (.iconst 1, 1) := by decide +kernel
theorem dX3_readNeed_38 : decode cX3_readNeed 38 = .ok (.invokevirtual 45, 3) := by decide +kernel
theorem dX3_readNeed_41 : decode cX3_readNeed 41 = .ok (.aload_n 1, 1) := by decide +kernel
theorem dX3_readNeed_42 : decode cX3_readNeed 42 = .ok (.invokevirtual 56, 3) := by decide +kernel
theorem dX3_readNeed_45 : decode cX3_readNeed 45 = .ok (.aload_n 1, 1) := by decide +kernel
theorem dX3_readNeed_46 : decode cX3_readNeed 46 = .ok (.sipush 261, 3) := by decide +kernel
theorem dX3_readNeed_49 : decode cX3_readNeed 49 = .ok (.invokevirtual 53, 3) := by decide +kernel
theorem dX3_readNeed_52 : decode cX3_readNeed 52 = .ok (.aload_n 1, 1) := by decide +kernel
theorem dX3_readNeed_53 : decode cX3_readNeed 53 = .ok (.iconst 0, 1) := by decide +kernel
theorem dX3_readNeed_54 : decode cX3_readNeed 54 = .ok (.iload_n 2, 1) := by decide +kernel
theorem dX3_readNeed_55 : decode cX3_readNeed 55 = .ok (.iconst 1, 1) := by decide +kernel
theorem dX3_readNeed_56 : decode cX3_readNeed 56 = .ok (.isub, 1) := by decide +kernel
theorem dX3_readNeed_57 : decode cX3_readNeed 57 = .ok (.invokevirtual 59, 3) := by decide +kernel
theorem dX3_readNeed_60 : decode cX3_readNeed 60 = .ok (.istore 4, 2) := by decide +kernel
theorem dX3_readNeed_62 : decode cX3_readNeed 62 = .ok (.aload_n 1, 1) := by decide +kernel
theorem dX3_readNeed_63 : decode cX3_readNeed 63 = .ok (.sipush 262, 3) := by decide +kernel
theorem dX3_readNeed_66 : decode cX3_readNeed 66 = .ok (.invokevirtual 53, 3) := by decide +kernel
theorem dX3_readNeed_69 : decode cX3_readNeed 69 = .ok (.aload_n 1, 1) := by decide +kernel
theorem dX3_readNeed_70 : decode cX3_readNeed 70 = .ok (.iconst 0, 1) := by decide +kernel
theorem dX3_readNeed_71 : decode cX3_readNeed 71 = .ok (.sipush 9999, 3) := by decide +kernel
theorem dX3_readNeed_74 : decode cX3_readNeed 74 = .ok (.invokevirtual 59, 3) := by decide +kernel
theorem dX3_readNeed_77 : decode cX3_readNeed 77 = .ok (.istore 5, 2) := by decide +kernel
theorem dX3_readNeed_79 : decode cX3_readNeed 79 = .ok (.aload_n 1, 1) := by decide +kernel
theorem dX3_readNeed_80 : decode cX3_readNeed 80 = .ok (.sipush 263, 3) := by decide +kernel
theorem dX3_readNeed_83 : decode cX3_readNeed 83 = .ok (.invokevirtual 53, 3) := by decide +kernel
theorem dX3_readNeed_86 : decode cX3_readNeed 86 = .ok (.aload_n 1, 1) := by decide +kernel
theorem dX3_readNeed_87 : decode cX3_readNeed 87 = .ok (.iload 5, 2) := by decide +kernel
theorem dX3_readNeed_89 : decode cX3_readNeed 89 = .ok (.sipush 9999, 3) := by decide +kernel
theorem dX3_readNeed_92 : decode cX3_readNeed 92 = .ok (.invokevirtual 59, 3) := by decide +kernel
theorem dX3_readNeed_95 : decode cX3_readNeed 95 = .ok (.istore 6, 2) := by decide +kernel
theorem dX3_readNeed_97 : decode cX3_readNeed 97 = .ok (.aload_n 1, 1) := by decide +kernel
theorem dX3_readNeed_98 : decode cX3_readNeed 98 = .ok (.sipush 264, 3) := by decide +kernel
theorem dX3_readNeed_101 : decode cX3_readNeed 101 = .ok (.invokevirtual 53, 3) := by decide +kernel
theorem dX3_readNeed_104 : decode cX3_readNeed 104 = .ok (.aload_n 1, 1) := by decide +kernel
theorem dX3_readNeed_105 : decode cX3_readNeed 105 = .ok (.iconst 1, 1) := by decide +kernel
theorem dX3_readNeed_106 : decode cX3_readNeed 106 = .ok (.bipush 99, 2) := by decide +kernel
theorem dX3_readNeed_108 : decode cX3_readNeed 108 = .ok (.invokevirtual 59, 3) := by decide +kernel
theorem dX3_readNeed_111 : decode cX3_readNeed 111 = .ok (.istore 7, 2) := by decide +kernel
theorem dX3_readNeed_113 : decode cX3_readNeed 113 = .ok (.aload_n 1, 1) := by decide +kernel
theorem dX3_readNeed_114 : decode cX3_readNeed 114 = .ok (.bipush 59, 2) := by decide +kernel
theorem dX3_readNeed_116 : decode cX3_readNeed 116 = .ok (.invokevirtual 53, 3) := by decide +kernel
theorem dX3_readNeed_119 : decode cX3_readNeed 119 = .ok (.aload_n 1, 1) := by decide +kernel
theorem dX3_readNeed_120 : decode cX3_readNeed 120 = .ok (.getfield 63, 3) := by decide +kernel
theorem dX3_readNeed_123 : decode cX3_readNeed 123 = .ok (.ifCond .ne 76, 3) := by decide +kernel
theorem dX3_readNeed_126 : decode cX3_readNeed 126 = .ok (.aload_n 0, 1) := by decide +kernel
theorem dX3_readNeed_127 : decode cX3_readNeed 127 = .ok (.getfield 33, 3) := by decide +kernel
theorem dX3_readNeed_130 : decode cX3_readNeed 130 = .ok (.bipush 10, 2) := by decide +kernel
theorem dX3_readNeed_132 : decode cX3_readNeed 132 = .ok (.if_icmp .ge 67, 3) := by decide +kernel
theorem dX3_readNeed_135 : decode cX3_readNeed 135 = .ok (.aload_n 0, 1) := by decide +kernel
theorem dX3_readNeed_136 : decode cX3_readNeed 136 = .ok (.getfield 9, 3) := by decide +kernel
theorem dX3_readNeed_139 : decode cX3_readNeed 139 = .ok (.aload_n 0, 1) := by decide +kernel
theorem dX3_readNeed_140 : decode cX3_readNeed 140 = .ok (.getfield 33, 3) := by decide +kernel
theorem dX3_readNeed_143 : decode cX3_readNeed 143 = .ok (.iload_n 3, 1) := by decide +kernel
theorem dX3_readNeed_144 : decode cX3_readNeed 144 = .ok (.iastore, 1) := by decide +kernel
theorem dX3_readNeed_145 : decode cX3_readNeed 145 = .ok (.aload_n 0, 1) := by decide +kernel
theorem dX3_readNeed_146 : decode cX3_readNeed 146 = .ok (.getfield 15, 3) := by decide +kernel
theorem dX3_readNeed_149 : decode cX3_readNeed 149 = .ok (.aload_n 0, 1) := by decide +kernel
theorem dX3_readNeed_150 : decode cX3_readNeed 150 = .ok (.getfield 33, 3) := by decide +kernel
theorem dX3_readNeed_153 : decode cX3_readNeed 153 = .ok (.iload 4, 2) := by decide +kernel
theorem dX3_readNeed_155 : decode cX3_readNeed 155 = .ok (.iastore, 1) := by decide +kernel
theorem dX3_readNeed_156 : decode cX3_readNeed 156 = .ok (.aload_n 0, 1) := by decide +kernel
theorem dX3_readNeed_157 : decode cX3_readNeed 157 = .ok (.getfield 18, 3) := by decide +kernel
theorem dX3_readNeed_160 : decode cX3_readNeed 160 = .ok (.aload_n 0, 1) := by decide +kernel
theorem dX3_readNeed_161 : decode cX3_readNeed 161 = .ok (.getfield 33, 3) := by decide +kernel
theorem dX3_readNeed_164 : decode cX3_readNeed 164 = .ok (.iload 5, 2) := by decide +kernel
theorem dX3_readNeed_166 : decode cX3_readNeed 166 = .ok (.iastore, 1) := by decide +kernel
theorem dX3_readNeed_167 : decode cX3_readNeed 167 = .ok (.aload_n 0, 1) := by decide +kernel
theorem dX3_readNeed_168 : decode cX3_readNeed 168 = .ok (.getfield 21, 3) := by decide +kernel
theorem dX3_readNeed_171 : decode cX3_readNeed 171 = .ok (.aload_n 0, 1) := by decide +kernel
theorem dX3_readNeed_172 : decode cX3_readNeed 172 = .ok (.getfield 33, 3) := by decide +kernel
theorem dX3_readNeed_175 : decode cX3_readNeed 175 = .ok (.iload 6, 2) := by decide +kernel
theorem dX3_readNeed_177 : decode cX3_readNeed 177 = .ok (.iastore, 1) := by decide +kernel
theorem dX3_readNeed_178 : decode cX3_readNeed 178 = .ok (.aload_n 0, 1) := by decide +kernel
theorem dX3_readNeed_179 : decode cX3_readNeed 179 = .ok (.getfield 24, 3) := by decide +kernel
theorem dX3_readNeed_182 : decode cX3_readNeed 182 = .ok (.aload_n 0, 1) := by decide +kernel
theorem dX3_readNeed_183 : decode cX3_readNeed 183 = .ok (.getfield 33, 3) := by decide +kernel
theorem dX3_readNeed_186 : decode cX3_readNeed 186 = .ok (.iload 7, 2) := by decide +kernel
theorem dX3_readNeed_188 : decode cX3_readNeed 188 = .ok (.iastore, 1) := by decide +kernel
theorem dX3_readNeed_189 : decode cX3_readNeed 189 = .ok (.aload_n 0, 1) := by decide +kernel
theorem dX3_readNeed_190 : decode cX3_readNeed 190 = .ok (.dup, 1) := by decide +kernel
theorem dX3_readNeed_191 : decode cX3_readNeed 191 = .ok (.getfield 33, 3) := by decide +kernel
theorem dX3_readNeed_194 : decode cX3_readNeed 194 = .ok (.iconst 1, 1) := by decide +kernel
theorem dX3_readNeed_195 : decode cX3_readNeed 195 = .ok (.iadd, 1) := by decide +kernel
theorem dX3_readNeed_196 : decode cX3_readNeed 196 = .ok (.putfield 33, 3) := by decide +kernel
theorem dX3_readNeed_199 : decode cX3_readNeed 199 = .ok (.return_, 1) := by decide +kernel
theorem dX5_read_0 : decode cX5_read 0 = .ok (.aload_n 0, 1) := by decide +kernel
theorem dX5_read_1 : decode cX5_read 1 = .ok (.iconst 0, 1) := by decide +kernel
theorem dX5_read_2 : decode cX5_read 2 = .ok (.putfield 36, 3) := by decide +kernel
theorem dX5_read_5 : decode cX5_read 5 = .ok (.iconst 0, 1) := by decide +kernel
theorem dX5_read_6 : decode cX5_read 6 = .ok (.istore_n 3, 1) := by decide +kernel
theorem dX5_read_7 : decode cX5_read 7 = .ok (.iload_n 3, 1) := by decide +kernel
theorem dX5_read_8 : decode cX5_read 8 = .ok (.sipush 400, 3) := by decide +kernel
theorem dX5_read_11 : decode cX5_read 11 = .ok (.if_icmp .gt 46, 3) := by decide +kernel
theorem dX5_read_14 : decode cX5_read 14 = .ok (.aload_n 1, 1) := by decide +kernel
theorem dX5_read_15 : decode cX5_read 15 = .ok (.invokevirtual 40, 3) := by decide +kernel
theorem dX5_read_18 : decode cX5_read 18 = .ok (.ifCond .eq 39, 3) := by decide +kernel
theorem dX5_read_21 : decode cX5_read 21 = .ok (.aload_n 0, 1) := by decide +kernel
theorem dX5_read_22 : decode cX5_read 22 = .ok (.getfield 36, 3) := by decide +kernel
theorem dX5_read_25 : decode cX5_read 25 = .ok (.bipush 40, 2) := by decide +kernel
theorem dX5_read_27 : decode cX5_read 27 = .ok (.if_icmp .lt 18, 3) := by decide +kernel
theorem dX5_read_30 : decode cX5_read 30 = .ok (.aload_n 1, 1) := by decide +kernel
theorem dX5_read_31 : decode cX5_read 31 = .ok (.getfield 46, 3) := by decide +kernel
theorem dX5_read_34 : decode cX5_read 34 = .ok (.sipush 256, 3) := by decide +kernel
theorem dX5_read_37 : decode cX5_read 37 = .ok (.if_icmp .ne 8, 3) := by decide +kernel
theorem dX5_read_40 : decode cX5_read 40 = .ok (.aload_n 1, 1) := by decide +kernel
theorem dX5_read_41 : decode cX5_read 41 = .ok (.iconst 3, 1) := by decide +kernel
theorem dX5_read_42 : decode cX5_read 42 = .ok (.invokevirtual 49, 3) := by decide +kernel
theorem dX5_read_45 : decode cX5_read 45 = .ok (.aload_n 0, 1) := by decide +kernel
theorem dX5_read_46 : decode cX5_read 46 = .ok (.aload_n 1, 1) := by decide +kernel
theorem dX5_read_47 : decode cX5_read 47 = .ok (.iload_n 2, 1) := by decide +kernel
theorem dX5_read_48 : decode cX5_read 48 = .ok (.invokevirtual 53, 3) := by decide +kernel
theorem dX5_read_51 : decode cX5_read 51 = .ok (.iinc 3 1, 3) := by decide +kernel
theorem dX5_read_54 : decode cX5_read 54 = .ok (.goto (-47), 3) := by decide +kernel
theorem dX5_read_57 : decode cX5_read 57 = .ok (.return_, 1) := by decide +kernel
theorem dX5_readPath_0 : decode cX5_readPath 0 = .ok (.aload_n 1, 1) := by decide +kernel
theorem dX5_readPath_1 : decode cX5_readPath 1 = .ok (.sipush 256, 3) := by decide +kernel
theorem dX5_readPath_4 : decode cX5_readPath 4 = .ok (.invokevirtual 57, 3) := by decide +kernel
theorem dX5_readPath_7 : decode cX5_readPath 7 = .ok (.aload_n 1, 1) := by decide +kernel
theorem dX5_readPath_8 : decode cX5_readPath 8 = .ok (.iconst 0, 1) := by decide +kernel
theorem dX5_readPath_9 : decode cX5_readPath 9 = .ok (.iload_n 2, 1) := by decide +kernel
theorem dX5_readPath_10 : decode cX5_readPath 10 = .ok (.iconst 1, 1) := by decide +kernel
theorem dX5_readPath_11 : decode cX5_readPath 11 = .ok (.isub, 1) := by decide +kernel
theorem dX5_readPath_12 : decode cX5_readPath 12 = .ok (.invokevirtual 60, 3) := by decide +kernel
theorem dX5_readPath_15 : decode cX5_readPath 15 = .ok (.istore_n 3, 1) := by decide +kernel
theorem dX5_readPath_16 : decode cX5_readPath 16 = .ok (.aload_n 1, 1) := by decide +kernel
theorem dX5_readPath_17 : decode cX5_readPath 17 = .ok (.sipush 257, 3) := by decide +kernel
theorem dX5_readPath_20 : decode cX5_readPath 20 = .ok (.invokevirtual 57, 3) := by decide +kernel
theorem dX5_readPath_23 : decode cX5_readPath 23 = .ok (.aload_n 1, 1) := by decide +kernel
theorem dX5_readPath_24 : decode cX5_readPath 24 = .ok (.iconst 0, 1) := by decide +kernel
theorem dX5_readPath_25 : decode cX5_readPath 25 = .ok (.iload_n 2, 1) := by decide +kernel
theorem dX5_readPath_26 : decode cX5_readPath 26 = .ok (.iconst 1, 1) := by decide +kernel
theorem dX5_readPath_27 : decode cX5_readPath 27 = .ok (.isub, 1) := by decide +kernel
theorem dX5_readPath_28 : decode cX5_readPath 28 = .ok (.invokevirtual 60, 3) := by decide +kernel
theorem dX5_readPath_31 : decode cX5_readPath 31 = .ok (.istore 4, 2) := by decide +kernel
theorem dX5_readPath_33 : decode cX5_readPath 33 = .ok (.aload_n 1, 1) := by decide +kernel
theorem dX5_readPath_34 : decode cX5_readPath 34 = .ok (.sipush 258, 3) := by decide +kernel
theorem dX5_readPath_37 : decode cX5_readPath 37 = .ok (.invokevirtual 57, 3) := by decide +kernel
theorem dX5_readPath_40 : decode cX5_readPath 40 = .ok (.aload_n 1, 1) := by decide +kernel
theorem dX5_readPath_41 : decode cX5_readPath 41 = .ok (.iconst 1, 1) := by decide +kernel
theorem dX5_readPath_42 : decode cX5_readPath 42 = .ok (.bipush 99, 2) := by decide +kernel
theorem dX5_readPath_44 : decode cX5_readPath 44 = .ok (.invokevirtual 60, 3) := by decide +kernel
theorem dX5_readPath_47 : decode cX5_readPath 47 = .ok (.istore 5, 2) := by decide +kernel
theorem dX5_readPath_49 : decode cX5_readPath 49 = .ok (.bipush 9, 2) := by decide +kernel
theorem dX5_readPath_51 : decode cX5_readPath 51 = .ok (.istore 6, 2) := by decide +kernel
theorem dX5_readPath_53 : decode cX5_readPath 53 = .ok (.aload_n 1, 1) := by decide +kernel
theorem dX5_readPath_54 : decode cX5_readPath 54 = .ok (.getfield 46, 3) := by decide +kernel
theorem dX5_readPath_57 : decode cX5_readPath 57 = .ok (.sipush 259, 3) := by decide +kernel
theorem dX5_readPath_60 : decode cX5_readPath 60 = .ok (.if_icmp .ne 16, 3) := by decide +kernel
theorem dX5_readPath_63 : decode cX5_readPath 63 = .ok (.aload_n 1, 1) := by decide +kernel
theorem dX5_readPath_64 : decode cX5_readPath 64 = .ok (.invokevirtual 64, 3) := by decide +kernel
theorem dX5_readPath_67 : decode cX5_readPath 67 = .ok (.aload_n 1, 1) := by decide +kernel
theorem dX5_readPath_68 : decode cX5_readPath 68 = .ok (.iconst 0, 1) := by decide +kernel
theorem dX5_readPath_69 : decode cX5_readPath 69 = .ok (.bipush 9, 2) := by decide +kernel
theorem dX5_readPath_71 : decode cX5_readPath 71 = .ok (.invokevirtual 60, 3) := by decide +kernel
theorem dX5_readPath_74 : decode cX5_readPath 74 = .ok (.istore 6, 2) := by decide +kernel
theorem dX5_readPath_76 : decode cX5_readPath 76 = .ok (.aload_n 1, 1) := by decide +kernel
theorem dX5_readPath_77 : decode cX5_readPath 77 = .ok (.bipush 59, 2) := by decide +kernel
theorem dX5_readPath_79 : decode cX5_readPath 79 = .ok (.invokevirtual 57, 3) := by decide +kernel
theorem dX5_readPath_82 : decode cX5_readPath 82 = .ok (.aload_n 1, 1) := by decide +kernel
theorem dX5_readPath_83 : decode cX5_readPath 83 = .ok (.getfield 67, 3) := by decide +kernel
theorem dX5_readPath_86 : decode cX5_readPath 86 = .ok (.ifCond .ne 65, 3) := by decide +kernel
theorem dX5_readPath_89 : decode cX5_readPath 89 = .ok (.aload_n 0, 1) := by decide +kernel
theorem dX5_readPath_90 : decode cX5_readPath 90 = .ok (.getfield 36, 3) := by decide +kernel
theorem dX5_readPath_93 : decode cX5_readPath 93 = .ok (.bipush 40, 2) := by decide +kernel
theorem dX5_readPath_95 : decode cX5_readPath 95 = .ok (.if_icmp .ge 56, 3) := by decide +kernel
theorem dX5_readPath_98 : decode cX5_readPath 98 = .ok (.aload_n 0, 1) := by decide +kernel
theorem dX5_readPath_99 : decode cX5_readPath 99 = .ok (.getfield 9, 3) := by decide +kernel
theorem dX5_readPath_102 : decode cX5_readPath 102 = .ok (.aload_n 0, 1) := by decide +kernel
theorem dX5_readPath_103 : decode cX5_readPath 103 = .ok (.getfield 36, 3) := by decide +kernel
theorem dX5_readPath_106 : decode cX5_readPath 106 = .ok (.iload_n 3, 1) := by decide +kernel
theorem dX5_readPath_107 : decode cX5_readPath 107 = .ok (.iastore, 1) := by decide +kernel
theorem dX5_readPath_108 : decode cX5_readPath 108 = .ok (.aload_n 0, 1) := by decide +kernel
theorem dX5_readPath_109 : decode cX5_readPath 109 = .ok (.getfield 15, 3) := by decide +kernel
theorem dX5_readPath_112 : decode cX5_readPath 112 = .ok (.aload_n 0, 1) := by decide +kernel
theorem dX5_readPath_113 : decode cX5_readPath 113 = .ok (.getfield 36, 3) := by decide +kernel
theorem dX5_readPath_116 : decode cX5_readPath 116 = .ok (.iload 4, 2) := by decide +kernel
theorem dX5_readPath_118 : decode cX5_readPath 118 = .ok (.iastore, 1) := by decide +kernel
theorem dX5_readPath_119 : decode cX5_readPath 119 = .ok (.aload_n 0, 1) := by decide +kernel
theorem dX5_readPath_120 : decode cX5_readPath 120 = .ok (.getfield 18, 3) := by decide +kernel
theorem dX5_readPath_123 : decode cX5_readPath 123 = .ok (.aload_n 0, 1) := by decide +kernel
theorem dX5_readPath_124 : decode cX5_readPath 124 = .ok (.getfield 36, 3) := by decide +kernel
theorem dX5_readPath_127 : decode cX5_readPath 127 = .ok (.iload 5, 2) := by decide +kernel
theorem dX5_readPath_129 : decode cX5_readPath 129 = .ok (.iastore, 1) := by decide +kernel
theorem dX5_readPath_130 : decode cX5_readPath 130 = .ok (.aload_n 0, 1) := by decide +kernel
theorem dX5_readPath_131 : decode cX5_readPath 131 = .ok (.getfield 21, 3) := by decide +kernel
theorem dX5_readPath_134 : decode cX5_readPath 134 = .ok (.aload_n 0, 1) := by decide +kernel
theorem dX5_readPath_135 : decode cX5_readPath 135 = .ok (.getfield 36, 3) := by decide +kernel
theorem dX5_readPath_138 : decode cX5_readPath 138 = .ok (.iload 6, 2) := by decide +kernel
theorem dX5_readPath_140 : decode cX5_readPath 140 = .ok (.iastore, 1) := by decide +kernel
theorem dX5_readPath_141 : decode cX5_readPath 141 = .ok (.aload_n 0, 1) := by decide +kernel
theorem dX5_readPath_142 : decode cX5_readPath 142 = .ok (.dup, 1) := by decide +kernel
theorem dX5_readPath_143 : decode cX5_readPath 143 = .ok (.getfield 36, 3) := by decide +kernel
theorem dX5_readPath_146 : decode cX5_readPath 146 = .ok (.iconst 1, 1) := by decide +kernel
theorem dX5_readPath_147 : decode cX5_readPath 147 = .ok (.iadd, 1) := by decide +kernel
theorem dX5_readPath_148 : decode cX5_readPath 148 = .ok (.putfield 36, 3) := by decide +kernel
theorem dX5_readPath_151 : decode cX5_readPath 151 = .ok (.return_, 1) := by decide +kernel
theorem dX7_read_0 : decode cX7_read 0 = .ok (.aload_n 0, 1) := by decide +kernel
theorem dX7_read_1 : decode cX7_read 1 = .ok (.iconst 0, 1) := by decide +kernel
theorem dX7_read_2 : decode cX7_read 2 = .ok (.putfield 27, 3) := by decide +kernel
theorem dX7_read_5 : decode cX7_read 5 = .ok (.aload_n 0, 1) := by decide +kernel
theorem dX7_read_6 : decode cX7_read 6 = .ok (.iconst 0, 1) := by decide +kernel
theorem dX7_read_7 : decode cX7_read 7 = .ok (.putfield 31, 3) := by decide +kernel
theorem dX7_read_10 : decode cX7_read 10 = .ok (.iconst 0, 1) := by decide +kernel
theorem dX7_read_11 : decode cX7_read 11 = .ok (.istore_n 3, 1) := by decide +kernel
theorem dX7_read_12 : decode cX7_read 12 = .ok (.iload_n 3, 1) := by decide +kernel
theorem dX7_read_13 : decode cX7_read 13 = .ok (.sipush 400, 3) := by decide +kernel
theorem dX7_read_16 : decode cX7_read 16 = .ok (.if_icmp .gt 145, 3) := by decide +kernel
theorem dX7_read_19 : decode cX7_read 19 = .ok (.aload_n 1, 1) := by decide +kernel
theorem dX7_read_20 : decode cX7_read 20 = .ok (.invokevirtual 34, 3) := by decide +kernel
theorem dX7_read_23 : decode cX7_read 23 = .ok (.ifCond .eq 138, 3) := by decide +kernel
theorem dX7_read_26 : decode cX7_read 26 = .ok (.aload_n 1, 1) := by decide +kernel
theorem dX7_read_27 : decode cX7_read 27 = .ok (.getfield 40, 3) := by decide +kernel
theorem dX7_read_30 : decode cX7_read 30 = .ok (.sipush 256, 3) := by decide +kernel
theorem dX7_read_33 : decode cX7_read 33 = .ok (.if_icmp .ne 33, 3) := by decide +kernel
theorem dX7_read_36 : decode cX7_read 36 = .ok (.aload_n 1, 1) := by decide +kernel
theorem dX7_read_37 : decode cX7_read 37 = .ok (.invokevirtual 43, 3) := by decide +kernel
theorem dX7_read_40 : decode cX7_read 40 = .ok (.aload_n 1, 1) := by decide +kernel
theorem dX7_read_41 : decode cX7_read 41 = .ok (.iconst 0, 1) := by decide +kernel
theorem dX7_read_42 : decode cX7_read 42 = .ok (.iload_n 2, 1) := by decide +kernel
theorem dX7_read_43 : decode cX7_read 43 = .ok (.iconst 1, 1) := by decide +kernel
theorem dX7_read_44 : decode cX7_read 44 = .ok (.isub, 1) := by decide +kernel
theorem dX7_read_45 : decode cX7_read 45 = .ok (.invokevirtual 46, 3) := by decide +kernel
theorem dX7_read_48 : decode cX7_read 48 = .ok (.istore 4, 2) := by decide +kernel
theorem dX7_read_50 : decode cX7_read 50 = .ok (.aload_n 1, 1) := by decide +kernel
theorem dX7_read_51 : decode cX7_read 51 = .ok (.bipush 59, 2) := by decide +kernel
theorem dX7_read_53 : decode cX7_read 53 = .ok (.invokevirtual 50, 3) := by decide +kernel
theorem dX7_read_56 : decode cX7_read 56 = .ok (.aload_n 0, 1) := by decide +kernel
theorem dX7_read_57 : decode cX7_read 57 = .ok (.iload 4, 2) := by decide +kernel
theorem dX7_read_59 : decode cX7_read 59 = .ok (.iconst 1, 1) := by decide +kernel
theorem dX7_read_60 : decode cX7_read 60 = .ok (.invokevirtual 54, 3) := by decide +kernel
theorem dX7_read_63 : decode cX7_read 63 = .ok (.goto 92, 3) := by decide +kernel
theorem dX7_read_66 : decode cX7_read 66 = .ok (.aload_n 1, 1) := by decide +kernel
theorem dX7_read_67 : decode cX7_read 67 = .ok (.getfield 40, 3) := by decide +kernel
theorem dX7_read_70 : decode cX7_read 70 = .ok (.sipush 257, 3) := by decide +kernel
theorem dX7_read_73 : decode cX7_read 73 = .ok (.if_icmp .ne 32, 3) := by decide +kernel
theorem dX7_read_76 : decode cX7_read 76 = .ok (.aload_n 1, 1) := by decide +kernel
theorem dX7_read_77 : decode cX7_read 77 = .ok (.invokevirtual 43, 3) := by decide +kernel
theorem dX7_read_80 : decode cX7_read 80 = .ok (.aload_n 1, 1) := by decide +kernel
theorem dX7_read_81 : decode cX7_read 81 = .ok (.iconst 1, 1) := by decide +kernel
theorem dX7_read_82 : decode cX7_read 82 = .ok (.bipush 60, 2) := by decide +kernel
theorem dX7_read_84 : decode cX7_read 84 = .ok (.invokevirtual 46, 3) := by decide +kernel
theorem dX7_read_87 : decode cX7_read 87 = .ok (.istore 4, 2) := by decide +kernel
theorem dX7_read_89 : decode cX7_read 89 = .ok (.aload_n 1, 1) := by decide +kernel
theorem dX7_read_90 : decode cX7_read 90 = .ok (.bipush 59, 2) := by decide +kernel
theorem dX7_read_92 : decode cX7_read 92 = .ok (.invokevirtual 50, 3) := by decide +kernel
theorem dX7_read_95 : decode cX7_read 95 = .ok (.aload_n 0, 1) := by decide +kernel
theorem dX7_read_96 : decode cX7_read 96 = .ok (.iconst (-1), 1) := by decide +kernel
theorem dX7_read_97 : decode cX7_read 97 = .ok (.iload 4, 2) := by decide +kernel
theorem dX7_read_99 : decode cX7_read 99 = .ok (.invokevirtual 54, 3) := by decide +kernel
theorem dX7_read_102 : decode cX7_read 102 = .ok (.goto 53, 3) := by decide +kernel
theorem dX7_read_105 : decode cX7_read 105 = .ok (.aload_n 1, 1) := by decide +kernel
theorem dX7_read_106 : decode cX7_read 106 = .ok (.getfield 40, 3) := by decide +kernel
theorem dX7_read_109 : decode cX7_read 109 = .ok (.sipush 258, 3) := by decide +kernel
theorem dX7_read_112 : decode cX7_read 112 = .ok (.if_icmp .ne 11, 3) := by decide +kernel
theorem dX7_read_115 : decode cX7_read 115 = .ok (.aload_n 0, 1) := by decide +kernel
theorem dX7_read_116 : decode cX7_read 116 = .ok (.aload_n 1, 1) := by decide +kernel
theorem dX7_read_117 : decode cX7_read 117 = .ok (.invokevirtual 58, 3) := by decide +kernel
theorem dX7_read_120 : decode cX7_read 120 = .ok (.goto 35, 3) := by decide +kernel
theorem dX7_read_123 : decode cX7_read 123 = .ok (.aload_n 1, 1) := by decide +kernel
theorem dX7_read_124 : decode cX7_read 124 = .ok (.getfield 40, 3) := by decide +kernel
theorem dX7_read_127 : decode cX7_read 127 = .ok (.bipush 41, 2) := by decide +kernel
theorem dX7_read_129 : decode cX7_read 129 = .ok (.if_icmp .ne 21, 3) := by decide +kernel
theorem dX7_read_132 : decode cX7_read 132 = .ok (.aload_n 0, 1) := by decide +kernel
theorem dX7_read_133 : decode cX7_read 133 = .ok (.getfield 31, 3) := by decide +kernel
theorem dX7_read_136 : decode cX7_read 136 = .ok (.ifCond .le 14, 3) := by decide +kernel
theorem dX7_read_139 : decode cX7_read 139 = .ok (.aload_n 1, 1) := by decide +kernel
theorem dX7_read_140 : decode cX7_read 140 = .ok (.invokevirtual 43, 3) := by decide +kernel
theorem dX7_read_143 : decode cX7_read 143 = .ok (.aload_n 0, 1) := by decide +kernel
theorem dX7_read_144 : decode cX7_read 144 = .ok (.invokevirtual 62, 3) := by decide +kernel
theorem dX7_read_147 : decode cX7_read 147 = .ok (.goto 8, 3) := by decide +kernel
theorem dX7_read_150 : decode cX7_read 150 = .ok (.aload_n 1, 1) := by decide +kernel
theorem dX7_read_151 : decode cX7_read 151 = .ok (.iconst 1, 1) := by decide +kernel
theorem dX7_read_152 : decode cX7_read 152 = .ok (.invokevirtual 65, 3) := by decide +kernel
theorem dX7_read_155 : decode cX7_read 155 = .ok (.iinc 3 1, 3) := by decide +kernel
theorem dX7_read_158 : decode cX7_read 158 = .ok (.goto (-146), 3) := by decide +kernel
theorem dX7_read_161 : decode cX7_read 161 = .ok (.aload_n 0, 1) := by decide +kernel
theorem dX7_read_162 : decode cX7_read 162 = .ok (.getfield 31, 3) := by decide +kernel
theorem dX7_read_165 : decode cX7_read 165 = .ok (.ifCond .le 8, 3) := by decide +kernel
theorem dX7_read_168 : decode cX7_read 168 = .ok (.aload_n 1, 1) := by decide +kernel
theorem dX7_read_169 : decode cX7_read 169 = .ok (.iconst 1, 1) := by decide +kernel
theorem dX7_read_170 : decode cX7_read 170 = .ok (.invokevirtual 65, 3) := by decide +kernel
theorem dX7_read_173 : decode cX7_read 173 = .ok (.aload_n 0, 1) := by decide +kernel
theorem dX7_read_174 : decode cX7_read 174 = .ok (.getfield 27, 3) := by decide +kernel
theorem dX7_read_177 : decode cX7_read 177 = .ok (.sipush 200, 3) := by decide +kernel
theorem dX7_read_180 : decode cX7_read 180 = .ok (.if_icmp .le 8, 3) := by decide +kernel
theorem dX7_read_183 : decode cX7_read 183 = .ok (.aload_n 1, 1) := by decide +kernel
theorem dX7_read_184 : decode cX7_read 184 = .ok (.iconst 4, 1) := by decide +kernel
theorem dX7_read_185 : decode cX7_read 185 = .ok (.invokevirtual 65, 3) := by decide +kernel
theorem dX7_read_188 : decode cX7_read 188 = .ok (.return_, 1) := by decide +kernel
theorem dX7_readAgain_0 : decode cX7_readAgain 0 = .ok (.aload_n 0, 1) := by decide +kernel
theorem dX7_readAgain_1 : decode cX7_readAgain 1 = .ok (.getfield 31, 3) := by decide +kernel
theorem dX7_readAgain_4 : decode cX7_readAgain 4 = .ok (.iconst 4, 1) := by decide +kernel
theorem dX7_readAgain_5 : decode cX7_readAgain 5 = .ok (.if_icmp .lt 8, 3) := by decide +kernel
theorem dX7_readAgain_8 : decode cX7_readAgain 8 = .ok (.aload_n 1, 1) := by decide +kernel
theorem dX7_readAgain_9 : decode cX7_readAgain 9 = .ok (.iconst 3, 1) := by decide +kernel
theorem dX7_readAgain_10 : decode cX7_readAgain 10 = .ok (.invokevirtual 65, 3) := by decide +kernel
theorem dX7_readAgain_13 : decode cX7_readAgain 13 = .ok (.aload_n 1, 1) := by decide +kernel
theorem dX7_readAgain_14 : decode cX7_readAgain 14 = .ok (.invokevirtual 43, 3) := by decide +kernel
theorem dX7_readAgain_17 : decode cX7_readAgain 17 = .ok (.aload_n 1, 1) := by decide +kernel
theorem dX7_readAgain_18 : decode cX7_readAgain 18 = .ok (.iconst 1, 1) := by decide +kernel
theorem dX7_readAgain_19 : decode cX7_readAgain 19 = .ok (.bipush 9, 2) := by decide +kernel
theorem dX7_readAgain_21 : decode cX7_readAgain 21 = .ok (.invokevirtual 46, 3) := by decide +kernel
theorem dX7_readAgain_24 : decode cX7_readAgain 24 = .ok (.istore_n 2, 1) := by decide +kernel
theorem dX7_readAgain_25 : decode cX7_readAgain 25 = .ok (.aload_n 1, 1) := by decide +kernel
theorem dX7_readAgain_26 : decode cX7_readAgain 26 = .ok (.bipush 40, 2) := by decide +kernel
theorem dX7_readAgain_28 : decode cX7_readAgain 28 = .ok (.invokevirtual 50, 3) := by decide +kernel
theorem dX7_readAgain_31 : decode cX7_readAgain 31 = .ok (.aload_n 1, 1) := by decide +kernel
theorem dX7_readAgain_32 : decode cX7_readAgain 32 = .ok (.getfield 68, 3) := by decide +kernel
theorem dX7_readAgain_35 : decode cX7_readAgain 35 = .ok (.ifCond .ne 44, 3) := by decide +kernel
theorem dX7_readAgain_38 : decode cX7_readAgain 38 = .ok (.aload_n 0, 1) := by decide +kernel
theorem dX7_readAgain_39 : decode cX7_readAgain 39 = .ok (.getfield 31, 3) := by decide +kernel
theorem dX7_readAgain_42 : decode cX7_readAgain 42 = .ok (.iconst 4, 1) := by decide +kernel
theorem dX7_readAgain_43 : decode cX7_readAgain 43 = .ok (.if_icmp .ge 36, 3) := by decide +kernel
theorem dX7_readAgain_46 : decode cX7_readAgain 46 = .ok (.aload_n 0, 1) := by decide +kernel
theorem dX7_readAgain_47 : decode cX7_readAgain 47 = .ok (.getfield 15, 3) := by decide +kernel
theorem dX7_readAgain_50 : decode cX7_readAgain 50 = .ok (.aload_n 0, 1) := by decide +kernel
theorem dX7_readAgain_51 : decode cX7_readAgain 51 = .ok (.getfield 31, 3) := by decide +kernel
theorem dX7_readAgain_54 : decode cX7_readAgain 54 = .ok (.aload_n 0, 1) := by decide +kernel
theorem dX7_readAgain_55 : decode cX7_readAgain 55 = .ok (.getfield 27, 3) := by decide +kernel
theorem dX7_readAgain_58 : decode cX7_readAgain 58 = .ok (.iastore, 1) := by decide +kernel
theorem dX7_readAgain_59 : decode cX7_readAgain 59 = .ok (.aload_n 0, 1) := by decide +kernel
theorem dX7_readAgain_60 : decode cX7_readAgain 60 = .ok (.getfield 18, 3) := by decide +kernel
theorem dX7_readAgain_63 : decode cX7_readAgain 63 = .ok (.aload_n 0, 1) := by decide +kernel
theorem dX7_readAgain_64 : decode cX7_readAgain 64 = .ok (.getfield 31, 3) := by decide +kernel
theorem dX7_readAgain_67 : decode cX7_readAgain 67 = .ok (.iload_n 2, 1) := by decide +kernel
theorem dX7_readAgain_68 : decode cX7_readAgain 68 = .ok (.iastore, 1) := by decide +kernel
theorem dX7_readAgain_69 : decode cX7_readAgain 69 = .ok (.aload_n 0, 1) := by decide +kernel
theorem dX7_readAgain_70 : decode cX7_readAgain 70 = .ok (.dup, 1) := by decide +kernel
theorem dX7_readAgain_71 : decode cX7_readAgain 71 = .ok (.getfield 31, 3) := by decide +kernel
theorem dX7_readAgain_74 : decode cX7_readAgain 74 = .ok (.iconst 1, 1) := by decide +kernel
theorem dX7_readAgain_75 : decode cX7_readAgain 75 = .ok (.iadd, 1) := by decide +kernel
theorem dX7_readAgain_76 : decode cX7_readAgain 76 = .ok (.putfield 31, 3) := by decide +kernel
theorem dX7_readAgain_79 : decode cX7_readAgain 79 = .ok (.return_, 1) := by decide +kernel
theorem q_10 : Cond.selects RX2 yX2_endParts yX2_endParts ∈ GW := inG 10 (by decide +kernel) (by decide +kernel)
theorem q_11 : Cond.selects RX2 yX2_endNots yX2_endNots ∈ GW := inG 11 (by decide +kernel) (by decide +kernel)
theorem q_12 : Cond.selects RX2 yX2_fold yX2_fold ∈ GW := inG 12 (by decide +kernel) (by decide +kernel)
theorem q_13 : Cond.selects RX5 yX5_readPath yX5_readPath ∈ GW := inG 13 (by decide +kernel) (by decide +kernel)
theorem q_14 : Cond.selects RX3 yX3_readNeed yX3_readNeed ∈ GW := inG 14 (by decide +kernel) (by decide +kernel)
theorem q_15 : Cond.selects RX7 yX7_add yX7_add ∈ GW := inG 15 (by decide +kernel) (by decide +kernel)
theorem q_158 : Cond.initialized RX7 ∈ GW := inG 158 (by decide +kernel) (by decide +kernel)
theorem q_16 : Cond.selects RX7 yX7_readAgain yX7_readAgain ∈ GW := inG 16 (by decide +kernel) (by decide +kernel)
theorem q_17 : Cond.selects RX7 yX7_repeat yX7_repeat ∈ GW := inG 17 (by decide +kernel) (by decide +kernel)
theorem q_392 : Cond.fieldLink RX2 82 "LampRound$Law" "brackets" "I" ∈ GW := inG 392 (by decide +kernel) (by decide +kernel)
theorem q_4 : Cond.selects RX2 yX2_readSum yX2_readSum ∈ GW := inG 4 (by decide +kernel) (by decide +kernel)
theorem q_5 : Cond.selects RX2 yX2_readOperand yX2_readOperand ∈ GW := inG 5 (by decide +kernel) (by decide +kernel)
theorem q_542 : Cond.fieldLink RX7 40 "LampRound$Tape" "kind" "I" ∈ GW := inG 542 (by decide +kernel) (by decide +kernel)
theorem q_543 : Cond.fieldLink RX5 46 "LampRound$Tape" "kind" "I" ∈ GW := inG 543 (by decide +kernel) (by decide +kernel)
theorem q_544 : Cond.fieldLink RX3 43 "LampRound$Tape" "kind" "I" ∈ GW := inG 544 (by decide +kernel) (by decide +kernel)
theorem q_545 : Cond.fieldLink RX2 43 "LampRound$Tape" "kind" "I" ∈ GW := inG 545 (by decide +kernel) (by decide +kernel)
theorem q_547 : Cond.fieldLink RX2 76 "LampRound$Tape" "value" "I" ∈ GW := inG 547 (by decide +kernel) (by decide +kernel)
theorem q_551 : Cond.fieldLink RX2 63 "LampRound$Tape" "fault" "I" ∈ GW := inG 551 (by decide +kernel) (by decide +kernel)
theorem q_552 : Cond.fieldLink RX7 68 "LampRound$Tape" "fault" "I" ∈ GW := inG 552 (by decide +kernel) (by decide +kernel)
theorem q_553 : Cond.fieldLink RX5 67 "LampRound$Tape" "fault" "I" ∈ GW := inG 553 (by decide +kernel) (by decide +kernel)
theorem q_554 : Cond.fieldLink RX3 63 "LampRound$Tape" "fault" "I" ∈ GW := inG 554 (by decide +kernel) (by decide +kernel)
theorem q_7 : Cond.selects RX2 yX2_readCondition yX2_readCondition ∈ GW := inG 7 (by decide +kernel) (by decide +kernel)
theorem q_8 : Cond.selects RX2 yX2_openPart yX2_openPart ∈ GW := inG 8 (by decide +kernel) (by decide +kernel)
theorem q_852 : Cond.methodLink RX2 37 yX8_goesOn ∈ GW := inG 852 (by decide +kernel) (by decide +kernel)
theorem q_853 : Cond.instanceMethod yX8_goesOn ∈ GW := inG 853 (by decide +kernel) (by decide +kernel)
theorem q_854 : Cond.selects RX8 yX8_goesOn yX8_goesOn ∈ GW := inG 854 (by decide +kernel) (by decide +kernel)
theorem q_855 : Cond.code yX8_goesOn cX8_goesOn 1 (some .boolean) ∈ GW := inG 855 (by decide +kernel) (by decide +kernel)
theorem q_856 : Cond.methodLink RX2 46 yX8_refuse ∈ GW := inG 856 (by decide +kernel) (by decide +kernel)
theorem q_860 : Cond.methodLink RX2 50 yX8_pass ∈ GW := inG 860 (by decide +kernel) (by decide +kernel)
theorem q_861 : Cond.instanceMethod yX8_pass ∈ GW := inG 861 (by decide +kernel) (by decide +kernel)
theorem q_862 : Cond.selects RX8 yX8_pass yX8_pass ∈ GW := inG 862 (by decide +kernel) (by decide +kernel)
theorem q_863 : Cond.code yX8_pass cX8_pass 2 none ∈ GW := inG 863 (by decide +kernel) (by decide +kernel)
theorem q_865 : Cond.methodLink RX2 53 yX2_readSum ∈ GW := inG 865 (by decide +kernel) (by decide +kernel)
theorem q_867 : Cond.instanceMethod yX2_readSum ∈ GW := inG 867 (by decide +kernel) (by decide +kernel)
theorem q_868 : Cond.code yX2_readSum cX2_readSum 5 none ∈ GW := inG 868 (by decide +kernel) (by decide +kernel)
theorem q_869 : Cond.methodLink RX2 66 yX2_readOperand ∈ GW := inG 869 (by decide +kernel) (by decide +kernel)
theorem q_871 : Cond.instanceMethod yX2_readOperand ∈ GW := inG 871 (by decide +kernel) (by decide +kernel)
theorem q_872 : Cond.code yX2_readOperand cX2_readOperand 2 none ∈ GW := inG 872 (by decide +kernel) (by decide +kernel)
theorem q_877 : Cond.methodLink RX2 57 yX8_step ∈ GW := inG 877 (by decide +kernel) (by decide +kernel)
theorem q_878 : Cond.methodLink RX2 72 yX8_number ∈ GW := inG 878 (by decide +kernel) (by decide +kernel)
theorem q_879 : Cond.instanceMethod yX8_number ∈ GW := inG 879 (by decide +kernel) (by decide +kernel)
theorem q_880 : Cond.selects RX8 yX8_number yX8_number ∈ GW := inG 880 (by decide +kernel) (by decide +kernel)
theorem q_881 : Cond.code yX8_number cX8_number 4 (some .int) ∈ GW := inG 881 (by decide +kernel) (by decide +kernel)
theorem q_882 : Cond.methodLink RX2 60 yX2_readCondition ∈ GW := inG 882 (by decide +kernel) (by decide +kernel)
theorem q_884 : Cond.instanceMethod yX2_readCondition ∈ GW := inG 884 (by decide +kernel) (by decide +kernel)
theorem q_885 : Cond.code yX2_readCondition cX2_readCondition 4 none ∈ GW := inG 885 (by decide +kernel) (by decide +kernel)
theorem q_886 : Cond.methodLink RX2 88 yX2_openPart ∈ GW := inG 886 (by decide +kernel) (by decide +kernel)
theorem q_888 : Cond.instanceMethod yX2_openPart ∈ GW := inG 888 (by decide +kernel) (by decide +kernel)
theorem q_889 : Cond.code yX2_openPart cX2_openPart 2 none ∈ GW := inG 889 (by decide +kernel) (by decide +kernel)
theorem q_890 : Cond.methodLink RX2 101 yX2_hold ∈ GW := inG 890 (by decide +kernel) (by decide +kernel)
theorem q_892 : Cond.instanceMethod yX2_hold ∈ GW := inG 892 (by decide +kernel) (by decide +kernel)
theorem q_893 : Cond.code yX2_hold cX2_hold 2 none ∈ GW := inG 893 (by decide +kernel) (by decide +kernel)
theorem q_894 : Cond.methodLink RX2 91 yX8_passComparison ∈ GW := inG 894 (by decide +kernel) (by decide +kernel)
theorem q_895 : Cond.instanceMethod yX8_passComparison ∈ GW := inG 895 (by decide +kernel) (by decide +kernel)
theorem q_896 : Cond.selects RX8 yX8_passComparison yX8_passComparison ∈ GW := inG 896 (by decide +kernel) (by decide +kernel)
theorem q_897 : Cond.code yX8_passComparison cX8_passComparison 2 (some .int) ∈ GW := inG 897 (by decide +kernel) (by decide +kernel)
theorem q_898 : Cond.methodLink RX2 95 yX2_endParts ∈ GW := inG 898 (by decide +kernel) (by decide +kernel)
theorem q_9 : Cond.selects RX2 yX2_hold yX2_hold ∈ GW := inG 9 (by decide +kernel) (by decide +kernel)
theorem q_900 : Cond.instanceMethod yX2_endParts ∈ GW := inG 900 (by decide +kernel) (by decide +kernel)
theorem q_901 : Cond.code yX2_endParts cX2_endParts 3 none ∈ GW := inG 901 (by decide +kernel) (by decide +kernel)
theorem q_902 : Cond.methodLink RX2 104 yX2_endNots ∈ GW := inG 902 (by decide +kernel) (by decide +kernel)
theorem q_904 : Cond.instanceMethod yX2_endNots ∈ GW := inG 904 (by decide +kernel) (by decide +kernel)
theorem q_905 : Cond.code yX2_endNots cX2_endNots 1 none ∈ GW := inG 905 (by decide +kernel) (by decide +kernel)
theorem q_906 : Cond.methodLink RX2 98 yX2_fold ∈ GW := inG 906 (by decide +kernel) (by decide +kernel)
theorem q_908 : Cond.instanceMethod yX2_fold ∈ GW := inG 908 (by decide +kernel) (by decide +kernel)
theorem q_909 : Cond.code yX2_fold cX2_fold 2 none ∈ GW := inG 909 (by decide +kernel) (by decide +kernel)
theorem q_914 : Cond.methodLink RX5 40 yX8_goesOn ∈ GW := inG 914 (by decide +kernel) (by decide +kernel)
theorem q_915 : Cond.methodLink RX5 49 yX8_refuse ∈ GW := inG 915 (by decide +kernel) (by decide +kernel)
theorem q_916 : Cond.methodLink RX5 53 yX5_readPath ∈ GW := inG 916 (by decide +kernel) (by decide +kernel)
theorem q_918 : Cond.instanceMethod yX5_readPath ∈ GW := inG 918 (by decide +kernel) (by decide +kernel)
theorem q_919 : Cond.code yX5_readPath cX5_readPath 7 none ∈ GW := inG 919 (by decide +kernel) (by decide +kernel)
theorem q_920 : Cond.methodLink RX5 57 yX8_pass ∈ GW := inG 920 (by decide +kernel) (by decide +kernel)
theorem q_921 : Cond.methodLink RX5 60 yX8_number ∈ GW := inG 921 (by decide +kernel) (by decide +kernel)
theorem q_922 : Cond.methodLink RX5 64 yX8_step ∈ GW := inG 922 (by decide +kernel) (by decide +kernel)
theorem q_927 : Cond.methodLink RX3 37 yX8_goesOn ∈ GW := inG 927 (by decide +kernel) (by decide +kernel)
theorem q_928 : Cond.methodLink RX3 45 yX8_refuse ∈ GW := inG 928 (by decide +kernel) (by decide +kernel)
theorem q_929 : Cond.methodLink RX3 49 yX3_readNeed ∈ GW := inG 929 (by decide +kernel) (by decide +kernel)
theorem q_931 : Cond.instanceMethod yX3_readNeed ∈ GW := inG 931 (by decide +kernel) (by decide +kernel)
theorem q_932 : Cond.code yX3_readNeed cX3_readNeed 8 none ∈ GW := inG 932 (by decide +kernel) (by decide +kernel)
theorem q_933 : Cond.methodLink RX3 53 yX8_pass ∈ GW := inG 933 (by decide +kernel) (by decide +kernel)
theorem q_934 : Cond.methodLink RX3 56 yX8_step ∈ GW := inG 934 (by decide +kernel) (by decide +kernel)
theorem q_935 : Cond.methodLink RX3 59 yX8_number ∈ GW := inG 935 (by decide +kernel) (by decide +kernel)
theorem q_940 : Cond.methodLink RX7 34 yX8_goesOn ∈ GW := inG 940 (by decide +kernel) (by decide +kernel)
theorem q_941 : Cond.methodLink RX7 43 yX8_step ∈ GW := inG 941 (by decide +kernel) (by decide +kernel)
theorem q_942 : Cond.methodLink RX7 46 yX8_number ∈ GW := inG 942 (by decide +kernel) (by decide +kernel)
theorem q_943 : Cond.methodLink RX7 50 yX8_pass ∈ GW := inG 943 (by decide +kernel) (by decide +kernel)
theorem q_944 : Cond.methodLink RX7 54 yX7_add ∈ GW := inG 944 (by decide +kernel) (by decide +kernel)
theorem q_946 : Cond.instanceMethod yX7_add ∈ GW := inG 946 (by decide +kernel) (by decide +kernel)
theorem q_947 : Cond.code yX7_add cX7_add 4 none ∈ GW := inG 947 (by decide +kernel) (by decide +kernel)
theorem q_948 : Cond.methodLink RX7 58 yX7_readAgain ∈ GW := inG 948 (by decide +kernel) (by decide +kernel)
theorem q_950 : Cond.instanceMethod yX7_readAgain ∈ GW := inG 950 (by decide +kernel) (by decide +kernel)
theorem q_951 : Cond.code yX7_readAgain cX7_readAgain 3 none ∈ GW := inG 951 (by decide +kernel) (by decide +kernel)
theorem q_952 : Cond.methodLink RX7 65 yX8_refuse ∈ GW := inG 952 (by decide +kernel) (by decide +kernel)
theorem q_953 : Cond.methodLink RX7 62 yX7_repeat ∈ GW := inG 953 (by decide +kernel) (by decide +kernel)
theorem q_955 : Cond.instanceMethod yX7_repeat ∈ GW := inG 955 (by decide +kernel) (by decide +kernel)
theorem q_956 : Cond.code yX7_repeat cX7_repeat 4 none ∈ GW := inG 956 (by decide +kernel) (by decide +kernel)
theorem hdV_X2_endNots : yX2_endNots.cls = RX2 ∧ yX2_endNots.cls ≠ "java/lang/invoke/MethodHandle" ∧ yX2_endNots.cls ≠ "java/lang/invoke/VarHandle" ∧ (parseMethodDescriptor yX2_endNots.desc).map (fun d => d.parameters.length) = some 0 := by decide +kernel
theorem hdV_X2_endParts : yX2_endParts.cls = RX2 ∧ yX2_endParts.cls ≠ "java/lang/invoke/MethodHandle" ∧ yX2_endParts.cls ≠ "java/lang/invoke/VarHandle" ∧ (parseMethodDescriptor yX2_endParts.desc).map (fun d => d.parameters.length) = some 1 := by decide +kernel
theorem hdV_X2_fold : yX2_fold.cls = RX2 ∧ yX2_fold.cls ≠ "java/lang/invoke/MethodHandle" ∧ yX2_fold.cls ≠ "java/lang/invoke/VarHandle" ∧ (parseMethodDescriptor yX2_fold.desc).map (fun d => d.parameters.length) = some 1 := by decide +kernel
theorem hdV_X2_hold : yX2_hold.cls = RX2 ∧ yX2_hold.cls ≠ "java/lang/invoke/MethodHandle" ∧ yX2_hold.cls ≠ "java/lang/invoke/VarHandle" ∧ (parseMethodDescriptor yX2_hold.desc).map (fun d => d.parameters.length) = some 1 := by decide +kernel
theorem hdV_X2_openPart : yX2_openPart.cls = RX2 ∧ yX2_openPart.cls ≠ "java/lang/invoke/MethodHandle" ∧ yX2_openPart.cls ≠ "java/lang/invoke/VarHandle" ∧ (parseMethodDescriptor yX2_openPart.desc).map (fun d => d.parameters.length) = some 1 := by decide +kernel
theorem hdV_X2_readCondition : yX2_readCondition.cls = RX2 ∧ yX2_readCondition.cls ≠ "java/lang/invoke/MethodHandle" ∧ yX2_readCondition.cls ≠ "java/lang/invoke/VarHandle" ∧ (parseMethodDescriptor yX2_readCondition.desc).map (fun d => d.parameters.length) = some 1 := by decide +kernel
theorem hdV_X2_readOperand : yX2_readOperand.cls = RX2 ∧ yX2_readOperand.cls ≠ "java/lang/invoke/MethodHandle" ∧ yX2_readOperand.cls ≠ "java/lang/invoke/VarHandle" ∧ (parseMethodDescriptor yX2_readOperand.desc).map (fun d => d.parameters.length) = some 1 := by decide +kernel
theorem hdV_X2_readSum : yX2_readSum.cls = RX2 ∧ yX2_readSum.cls ≠ "java/lang/invoke/MethodHandle" ∧ yX2_readSum.cls ≠ "java/lang/invoke/VarHandle" ∧ (parseMethodDescriptor yX2_readSum.desc).map (fun d => d.parameters.length) = some 1 := by decide +kernel
theorem hdV_X3_readNeed : yX3_readNeed.cls = RX3 ∧ yX3_readNeed.cls ≠ "java/lang/invoke/MethodHandle" ∧ yX3_readNeed.cls ≠ "java/lang/invoke/VarHandle" ∧ (parseMethodDescriptor yX3_readNeed.desc).map (fun d => d.parameters.length) = some 2 := by decide +kernel
theorem hdV_X5_readPath : yX5_readPath.cls = RX5 ∧ yX5_readPath.cls ≠ "java/lang/invoke/MethodHandle" ∧ yX5_readPath.cls ≠ "java/lang/invoke/VarHandle" ∧ (parseMethodDescriptor yX5_readPath.desc).map (fun d => d.parameters.length) = some 2 := by decide +kernel
theorem hdV_X7_add : yX7_add.cls = RX7 ∧ yX7_add.cls ≠ "java/lang/invoke/MethodHandle" ∧ yX7_add.cls ≠ "java/lang/invoke/VarHandle" ∧ (parseMethodDescriptor yX7_add.desc).map (fun d => d.parameters.length) = some 2 := by decide +kernel
theorem hdV_X7_readAgain : yX7_readAgain.cls = RX7 ∧ yX7_readAgain.cls ≠ "java/lang/invoke/MethodHandle" ∧ yX7_readAgain.cls ≠ "java/lang/invoke/VarHandle" ∧ (parseMethodDescriptor yX7_readAgain.desc).map (fun d => d.parameters.length) = some 1 := by decide +kernel
theorem hdV_X7_repeat : yX7_repeat.cls = RX7 ∧ yX7_repeat.cls ≠ "java/lang/invoke/MethodHandle" ∧ yX7_repeat.cls ≠ "java/lang/invoke/VarHandle" ∧ (parseMethodDescriptor yX7_repeat.desc).map (fun d => d.parameters.length) = some 0 := by decide +kernel
theorem hdV_X8_goesOn : yX8_goesOn.cls = RX8 ∧ yX8_goesOn.cls ≠ "java/lang/invoke/MethodHandle" ∧ yX8_goesOn.cls ≠ "java/lang/invoke/VarHandle" ∧ (parseMethodDescriptor yX8_goesOn.desc).map (fun d => d.parameters.length) = some 0 := by decide +kernel
theorem hdV_X8_number : yX8_number.cls = RX8 ∧ yX8_number.cls ≠ "java/lang/invoke/MethodHandle" ∧ yX8_number.cls ≠ "java/lang/invoke/VarHandle" ∧ (parseMethodDescriptor yX8_number.desc).map (fun d => d.parameters.length) = some 2 := by decide +kernel
theorem hdV_X8_pass : yX8_pass.cls = RX8 ∧ yX8_pass.cls ≠ "java/lang/invoke/MethodHandle" ∧ yX8_pass.cls ≠ "java/lang/invoke/VarHandle" ∧ (parseMethodDescriptor yX8_pass.desc).map (fun d => d.parameters.length) = some 1 := by decide +kernel
theorem hdV_X8_passComparison : yX8_passComparison.cls = RX8 ∧ yX8_passComparison.cls ≠ "java/lang/invoke/MethodHandle" ∧ yX8_passComparison.cls ≠ "java/lang/invoke/VarHandle" ∧ (parseMethodDescriptor yX8_passComparison.desc).map (fun d => d.parameters.length) = some 0 := by decide +kernel
