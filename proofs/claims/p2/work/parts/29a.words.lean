theorem dX12_asks_0 : decode cX12_asks 0 = .ok (.aload_n 0, 1) := by decide +kernel
theorem dX12_asks_1 : decode cX12_asks 1 = .ok (.getfield 95, 3) := by decide +kernel
theorem dX12_asks_4 : decode cX12_asks 4 = .ok (.iconst 0, 1) := by decide +kernel
theorem dX12_asks_5 : decode cX12_asks 5 = .ok (.iload_n 1, 1) := by decide +kernel
theorem dX12_asks_6 : decode cX12_asks 6 = .ok (.iastore, 1) := by decide +kernel
theorem dX12_asks_7 : decode cX12_asks 7 = .ok (.aload_n 0, 1) := by decide +kernel
theorem dX12_asks_8 : decode cX12_asks 8 = .ok (.getfield 95, 3) := by decide +kernel
theorem dX12_asks_11 : decode cX12_asks 11 = .ok (.iconst 1, 1) := by decide +kernel
theorem dX12_asks_12 : decode cX12_asks 12 = .ok (.aload_n 0, 1) := by decide +kernel
theorem dX12_asks_13 : decode cX12_asks 13 = .ok (.getfield 7, 3) := by decide +kernel
theorem dX12_asks_16 : decode cX12_asks 16 = .ok (.bipush 16, 2) := by decide +kernel
theorem dX12_asks_18 : decode cX12_asks 18 = .ok (.iload_n 1, 1) := by decide +kernel
theorem dX12_asks_19 : decode cX12_asks 19 = .ok (.iadd, 1) := by decide +kernel
theorem dX12_asks_20 : decode cX12_asks 20 = .ok (.iaload, 1) := by decide +kernel
theorem dX12_asks_21 : decode cX12_asks 21 = .ok (.iastore, 1) := by decide +kernel
theorem dX12_asks_22 : decode cX12_asks 22 = .ok (.aload_n 0, 1) := by decide +kernel
theorem dX12_asks_23 : decode cX12_asks 23 = .ok (.getfield 95, 3) := by decide +kernel
theorem dX12_asks_26 : decode cX12_asks 26 = .ok (.iconst 2, 1) := by decide +kernel
theorem dX12_asks_27 : decode cX12_asks 27 = .ok (.aload_n 0, 1) := by decide +kernel
theorem dX12_asks_28 : decode cX12_asks 28 = .ok (.iload_n 1, 1) := by decide +kernel
theorem dX12_asks_29 : decode cX12_asks 29 = .ok (.invokevirtual 362, 3) := by decide +kernel
theorem dX12_asks_32 : decode cX12_asks 32 = .ok (.iastore, 1) := by decide +kernel
theorem dX12_asks_33 : decode cX12_asks 33 = .ok (.aload_n 0, 1) := by decide +kernel
theorem dX12_asks_34 : decode cX12_asks 34 = .ok (.getfield 95, 3) := by decide +kernel
theorem dX12_asks_37 : decode cX12_asks 37 = .ok (.iconst 3, 1) := by decide +kernel
theorem dX12_asks_38 : decode cX12_asks 38 = .ok (.aload_n 0, 1) := by decide +kernel
theorem dX12_asks_39 : decode cX12_asks 39 = .ok (.getfield 7, 3) := by decide +kernel
theorem dX12_asks_42 : decode cX12_asks 42 = .ok (.iconst 4, 1) := by decide +kernel
theorem dX12_asks_43 : decode cX12_asks 43 = .ok (.iaload, 1) := by decide +kernel
theorem dX12_asks_44 : decode cX12_asks 44 = .ok (.iastore, 1) := by decide +kernel
theorem dX12_asks_45 : decode cX12_asks 45 = .ok (.aload_n 0, 1) := by decide +kernel
theorem dX12_asks_46 : decode cX12_asks 46 = .ok (.getfield 95, 3) := by decide +kernel
theorem dX12_asks_49 : decode cX12_asks 49 = .ok (.iconst 4, 1) := by decide +kernel
theorem dX12_asks_50 : decode cX12_asks 50 = .ok (.aload_n 0, 1) := by decide +kernel
theorem dX12_asks_51 : decode cX12_asks 51 = .ok (.getfield 7, 3) := by decide +kernel
theorem dX12_asks_54 : decode cX12_asks 54 = .ok (.bipush 6, 2) := by decide +kernel
theorem dX12_asks_56 : decode cX12_asks 56 = .ok (.iload_n 1, 1) := by decide +kernel
theorem dX12_asks_57 : decode cX12_asks 57 = .ok (.iadd, 1) := by decide +kernel
theorem dX12_asks_58 : decode cX12_asks 58 = .ok (.iaload, 1) := by decide +kernel
theorem dX12_asks_59 : decode cX12_asks 59 = .ok (.iastore, 1) := by decide +kernel
theorem dX12_asks_60 : decode cX12_asks 60 = .ok (.aload_n 0, 1) := by decide +kernel
theorem dX12_asks_61 : decode cX12_asks 61 = .ok (.getfield 95, 3) := by decide +kernel
theorem dX12_asks_64 : decode cX12_asks 64 = .ok (.iconst 5, 1) := by decide +kernel
theorem dX12_asks_65 : decode cX12_asks 65 = .ok (.aload_n 0, 1) := by decide +kernel
theorem dX12_asks_66 : decode cX12_asks 66 = .ok (.getfield 7, 3) := by decide +kernel
theorem dX12_asks_69 : decode cX12_asks 69 = .ok (.iconst 0, 1) := by decide +kernel
theorem dX12_asks_70 : decode cX12_asks 70 = .ok (.iaload, 1) := by decide +kernel
theorem dX12_asks_71 : decode cX12_asks 71 = .ok (.bipush 120, 2) := by decide +kernel
theorem dX12_asks_73 : decode cX12_asks 73 = .ok (.irem, 1) := by decide +kernel
theorem dX12_asks_74 : decode cX12_asks 74 = .ok (.bipush 30, 2) := by decide +kernel
theorem dX12_asks_76 : decode cX12_asks 76 = .ok (.idiv, 1) := by decide +kernel
theorem dX12_asks_77 : decode cX12_asks 77 = .ok (.iastore, 1) := by decide +kernel
theorem dX12_asks_78 : decode cX12_asks 78 = .ok (.aload_n 0, 1) := by decide +kernel
theorem dX12_asks_79 : decode cX12_asks 79 = .ok (.getfield 95, 3) := by decide +kernel
theorem dX12_asks_82 : decode cX12_asks 82 = .ok (.bipush 6, 2) := by decide +kernel
theorem dX12_asks_84 : decode cX12_asks 84 = .ok (.aload_n 0, 1) := by decide +kernel
theorem dX12_asks_85 : decode cX12_asks 85 = .ok (.getfield 22, 3) := by decide +kernel
theorem dX12_asks_88 : decode cX12_asks 88 = .ok (.iload_n 1, 1) := by decide +kernel
theorem dX12_asks_89 : decode cX12_asks 89 = .ok (.iaload, 1) := by decide +kernel
theorem dX12_asks_90 : decode cX12_asks 90 = .ok (.iastore, 1) := by decide +kernel
theorem dX12_asks_91 : decode cX12_asks 91 = .ok (.aload_n 0, 1) := by decide +kernel
theorem dX12_asks_92 : decode cX12_asks 92 = .ok (.getfield 95, 3) := by decide +kernel
theorem dX12_asks_95 : decode cX12_asks 95 = .ok (.bipush 7, 2) := by decide +kernel
theorem dX12_asks_97 : decode cX12_asks 97 = .ok (.aload_n 0, 1) := by decide +kernel
theorem dX12_asks_98 : decode cX12_asks 98 = .ok (.iload_n 1, 1) := by decide +kernel
theorem dX12_asks_99 : decode cX12_asks 99 = .ok (.invokevirtual 365, 3) := by decide +kernel
theorem dX12_asks_102 : decode cX12_asks 102 = .ok (.iastore, 1) := by decide +kernel
theorem dX12_asks_103 : decode cX12_asks 103 = .ok (.return_, 1) := by decide +kernel
theorem dX12_burnOf_0 : decode cX12_burnOf 0 = .ok (.aload_n 0, 1) := by decide +kernel
theorem dX12_burnOf_1 : decode cX12_burnOf 1 = .ok (.iload_n 1, 1) := by decide +kernel
theorem dX12_burnOf_2 : decode cX12_burnOf 2 = .ok (.invokevirtual 368, 3) := by decide +kernel
theorem dX12_burnOf_5 : decode cX12_burnOf 5 = .ok (.aload_n 0, 1) := by decide +kernel
theorem dX12_burnOf_6 : decode cX12_burnOf 6 = .ok (.iconst 1, 1) := by decide +kernel
theorem dX12_burnOf_7 : decode cX12_burnOf 7 = .ok (.invokevirtual 371, 3) := by decide +kernel
theorem dX12_burnOf_10 : decode cX12_burnOf 10 = .ok (.istore_n 2, 1) := by decide +kernel
theorem dX12_burnOf_11 : decode cX12_burnOf 11 = .ok (.iload_n 2, 1) := by decide +kernel
theorem dX12_burnOf_12 : decode cX12_burnOf 12 = .ok (.iconst (-1), 1) := by decide +kernel
theorem dX12_burnOf_13 : decode cX12_burnOf 13 = .ok (.if_icmp .ne 7, 3) := by decide +kernel
theorem dX12_burnOf_16 : decode cX12_burnOf 16 = .ok (.iconst 1, 1) := by decide +kernel
theorem dX12_burnOf_17 : decode cX12_burnOf 17 = .ok (.goto 27, 3) := by decide +kernel
theorem dX12_burnOf_20 : decode cX12_burnOf 20 = .ok (.aload_n 0, 1) := by decide +kernel
theorem dX12_burnOf_21 : decode cX12_burnOf 21 = .ok (.aload_n 0, 1) := by decide +kernel
theorem dX12_burnOf_22 : decode cX12_burnOf 22 = .ok (.iconst 1, 1) := by decide +kernel
theorem dX12_burnOf_23 : decode cX12_burnOf 23 = .ok (.aload_n 0, 1) := by decide +kernel
theorem dX12_burnOf_24 : decode cX12_burnOf 24 = .ok (.getfield 52, 3) := by decide +kernel
theorem dX12_burnOf_27 : decode cX12_burnOf 27 = .ok (.iload_n 2, 1) := by decide +kernel
theorem dX12_burnOf_28 : decode cX12_burnOf 28 = .ok (.iaload, 1) := by decide +kernel
theorem dX12_burnOf_29 : decode cX12_burnOf 29 = .ok (.aload_n 0, 1) := by decide +kernel
theorem dX12_burnOf_30 : decode cX12_burnOf 30 = .ok (.getfield 55, 3) := by decide +kernel
theorem dX12_burnOf_33 : decode cX12_burnOf 33 = .ok (.iload_n 2, 1) := by decide +kernel
theorem dX12_burnOf_34 : decode cX12_burnOf 34 = .ok (.iaload, 1) := by decide +kernel
theorem dX12_burnOf_35 : decode cX12_burnOf 35 = .ok (.invokevirtual 346, 3) := by decide +kernel
theorem dX12_burnOf_38 : decode cX12_burnOf 38 = .ok (.iconst 0, 1) := by decide +kernel
theorem dX12_burnOf_39 : decode cX12_burnOf 39 = .ok (.bipush 99, 2) := by decide +kernel
theorem dX12_burnOf_41 : decode cX12_burnOf 41 = .ok (.invokevirtual 374, 3) := by decide +kernel
theorem dX12_burnOf_44 : decode cX12_burnOf 44 = .ok (.ireturn, 1) := by decide +kernel
theorem dX12_isLineWord_0 : decode cX12_isLineWord 0 = .ok (.aload_n 0, 1) := by decide +kernel
theorem dX12_isLineWord_1 : decode cX12_isLineWord 1 = .ok (.aload_n 0, 1) := by decide +kernel
theorem dX12_isLineWord_2 : decode cX12_isLineWord 2 = .ok (.getfield 216, 3) := by decide +kernel
theorem dX12_isLineWord_5 : decode cX12_isLineWord 5 = .ok (.ifCond .ne 7, 3) := by decide +kernel
theorem dX12_isLineWord_8 : decode cX12_isLineWord 8 = .ok (.iconst 0, 1) := by decide +kernel
theorem dX12_isLineWord_9 : decode cX12_isLineWord 9 = .ok (.goto 4, 3) := by decide +kernel
theorem dX12_isLineWord_12 : decode cX12_isLineWord 12 = .ok (.iconst 1, 1) := by decide +kernel
theorem dX12_isLineWord_13 : decode cX12_isLineWord 13 = .ok (.invokevirtual 251, 3) := by decide +kernel
theorem dX12_isLineWord_16 : decode cX12_isLineWord 16 = .ok (.ireturn, 1) := by decide +kernel
theorem dX12_lineOf_0 : decode cX12_lineOf 0 = .ok (.iconst 0, 1) := by decide +kernel
theorem dX12_lineOf_1 : decode cX12_lineOf 1 = .ok (.istore_n 2, 1) := by decide +kernel
theorem dX12_lineOf_2 : decode cX12_lineOf 2 = .ok (.iload_n 2, 1) := by decide +kernel
theorem dX12_lineOf_3 : decode cX12_lineOf 3 = .ok (.aload_n 0, 1) := by decide +kernel
theorem dX12_lineOf_4 : decode cX12_lineOf 4 = .ok (.getfield 49, 3) := by decide +kernel
theorem dX12_lineOf_7 : decode cX12_lineOf 7 = .ok (.iload_n 1, 1) := by decide +kernel
theorem dX12_lineOf_8 : decode cX12_lineOf 8 = .ok (.iaload, 1) := by decide +kernel
theorem dX12_lineOf_9 : decode cX12_lineOf 9 = .ok (.if_icmp .ge 53, 3) := by decide +kernel
theorem dX12_lineOf_12 : decode cX12_lineOf 12 = .ok (.bipush 16, 2) := by decide +kernel
theorem dX12_lineOf_14 : decode cX12_lineOf 14 = .ok (.iload_n 1, 1) := by decide +kernel
theorem dX12_lineOf_15 : decode cX12_lineOf 15 = .ok (.imul, 1) := by decide +kernel
theorem dX12_lineOf_16 : decode cX12_lineOf 16 = .ok (.iload_n 2, 1) := by decide +kernel
theorem dX12_lineOf_17 : decode cX12_lineOf 17 = .ok (.iadd, 1) := by decide +kernel
theorem dX12_lineOf_18 : decode cX12_lineOf 18 = .ok (.istore_n 3, 1) := by decide +kernel
theorem dX12_lineOf_19 : decode cX12_lineOf 19 = .ok (.aload_n 0, 1) := by decide +kernel
theorem dX12_lineOf_20 : decode cX12_lineOf 20 = .ok (.getfield 55, 3) := by decide +kernel
theorem dX12_lineOf_23 : decode cX12_lineOf 23 = .ok (.iload_n 3, 1) := by decide +kernel
theorem dX12_lineOf_24 : decode cX12_lineOf 24 = .ok (.iaload, 1) := by decide +kernel
theorem dX12_lineOf_25 : decode cX12_lineOf 25 = .ok (.aload_n 0, 1) := by decide +kernel
theorem dX12_lineOf_26 : decode cX12_lineOf 26 = .ok (.getfield 58, 3) := by decide +kernel
theorem dX12_lineOf_29 : decode cX12_lineOf 29 = .ok (.iload_n 3, 1) := by decide +kernel
theorem dX12_lineOf_30 : decode cX12_lineOf 30 = .ok (.iaload, 1) := by decide +kernel
theorem dX12_lineOf_31 : decode cX12_lineOf 31 = .ok (.if_icmp .eq 23, 3) := by decide +kernel
theorem dX12_lineOf_34 : decode cX12_lineOf 34 = .ok (.aload_n 0, 1) := by decide +kernel
theorem dX12_lineOf_35 : decode cX12_lineOf 35 = .ok (.iload_n 1, 1) := by decide +kernel
theorem dX12_lineOf_36 : decode cX12_lineOf 36 = .ok (.aload_n 0, 1) := by decide +kernel
theorem dX12_lineOf_37 : decode cX12_lineOf 37 = .ok (.getfield 55, 3) := by decide +kernel
theorem dX12_lineOf_40 : decode cX12_lineOf 40 = .ok (.iload_n 3, 1) := by decide +kernel
theorem dX12_lineOf_41 : decode cX12_lineOf 41 = .ok (.iaload, 1) := by decide +kernel
theorem dX12_lineOf_42 : decode cX12_lineOf 42 = .ok (.aload_n 0, 1) := by decide +kernel
theorem dX12_lineOf_43 : decode cX12_lineOf 43 = .ok (.getfield 58, 3) := by decide +kernel
theorem dX12_lineOf_46 : decode cX12_lineOf 46 = .ok (.iload_n 3, 1) := by decide +kernel
theorem dX12_lineOf_47 : decode cX12_lineOf 47 = .ok (.iaload, 1) := by decide +kernel
theorem dX12_lineOf_48 : decode cX12_lineOf 48 = .ok (.invokevirtual 346, 3) := by decide +kernel
theorem dX12_lineOf_51 : decode cX12_lineOf 51 = .ok (.ifCond .eq 5, 3) := by decide +kernel
theorem dX12_lineOf_54 : decode cX12_lineOf 54 = .ok (.iload_n 3, 1) := by decide +kernel
theorem dX12_lineOf_55 : decode cX12_lineOf 55 = .ok (.ireturn, 1) := by decide +kernel
theorem dX12_lineOf_56 : decode cX12_lineOf 56 = .ok (.iinc 2 1, 3) := by decide +kernel
theorem dX12_lineOf_59 : decode cX12_lineOf 59 = .ok (.goto (-57), 3) := by decide +kernel
theorem dX12_lineOf_62 : decode cX12_lineOf 62 = .ok (.iconst (-1), 1) := by decide +kernel
theorem dX12_lineOf_63 : decode cX12_lineOf 63 = .ok (.ireturn, 1) := by decide +kernel
theorem dX12_readLaw_0 : decode cX12_readLaw 0 = .ok (.iconst 0, 1) := by decide +kernel
theorem dX12_readLaw_1 : decode cX12_readLaw 1 = .ok (.istore_n 1, 1) := by decide +kernel
theorem dX12_readLaw_2 : decode cX12_readLaw 2 = .ok (.aload_n 0, 1) := by decide +kernel
theorem dX12_readLaw_3 : decode cX12_readLaw 3 = .ok (.invokevirtual 263, 3) := by decide +kernel
theorem dX12_readLaw_6 : decode cX12_readLaw 6 = .ok (.ifCond .eq 112, 3) := by decide +kernel
theorem dX12_readLaw_9 : decode cX12_readLaw 9 = .ok (.iload_n 1, 1) := by decide +kernel
theorem dX12_readLaw_10 : decode cX12_readLaw 10 = .ok (.bipush 16, 2) := by decide +kernel
theorem dX12_readLaw_12 : decode cX12_readLaw 12 = .ok (.if_icmp .ne 9, 3) := by decide +kernel
theorem dX12_readLaw_15 : decode cX12_readLaw 15 = .ok (.aload_n 0, 1) := by decide +kernel
theorem dX12_readLaw_16 : decode cX12_readLaw 16 = .ok (.iconst 3, 1) := by decide +kernel
theorem dX12_readLaw_17 : decode cX12_readLaw 17 = .ok (.invokevirtual 222, 3) := by decide +kernel
theorem dX12_readLaw_20 : decode cX12_readLaw 20 = .ok (.ireturn, 1) := by decide +kernel
theorem dX12_readLaw_21 : decode cX12_readLaw 21 = .ok (.bipush 32, 2) := by decide +kernel
theorem dX12_readLaw_23 : decode cX12_readLaw 23 = .ok (.iload_n 1, 1) := by decide +kernel
theorem dX12_readLaw_24 : decode cX12_readLaw 24 = .ok (.iadd, 1) := by decide +kernel
theorem dX12_readLaw_25 : decode cX12_readLaw 25 = .ok (.istore_n 2, 1) := by decide +kernel
theorem dX12_readLaw_26 : decode cX12_readLaw 26 = .ok (.aload_n 0, 1) := by decide +kernel
theorem dX12_readLaw_27 : decode cX12_readLaw 27 = .ok (.invokevirtual 229, 3) := by decide +kernel
theorem dX12_readLaw_30 : decode cX12_readLaw 30 = .ok (.aload_n 0, 1) := by decide +kernel
theorem dX12_readLaw_31 : decode cX12_readLaw 31 = .ok (.getfield 52, 3) := by decide +kernel
theorem dX12_readLaw_34 : decode cX12_readLaw 34 = .ok (.iload_n 2, 1) := by decide +kernel
theorem dX12_readLaw_35 : decode cX12_readLaw 35 = .ok (.aload_n 0, 1) := by decide +kernel
theorem dX12_readLaw_36 : decode cX12_readLaw 36 = .ok (.getfield 213, 3) := by decide +kernel
theorem dX12_readLaw_39 : decode cX12_readLaw 39 = .ok (.iastore, 1) := by decide +kernel
theorem dX12_readLaw_40 : decode cX12_readLaw 40 = .ok (.aload_n 0, 1) := by decide +kernel
theorem dX12_readLaw_41 : decode cX12_readLaw 41 = .ok (.invokevirtual 242, 3) := by decide +kernel
theorem dX12_readLaw_44 : decode cX12_readLaw 44 = .ok (.iconst (-1), 1) := by decide +kernel
theorem dX12_readLaw_45 : decode cX12_readLaw 45 = .ok (.if_icmp .ne 5, 3) := by decide +kernel
theorem dX12_readLaw_48 : decode cX12_readLaw 48 = .ok (.iconst (-1), 1) := by decide +kernel
theorem dX12_readLaw_49 : decode cX12_readLaw 49 = .ok (.ireturn, 1) := by decide +kernel
theorem dX12_readLaw_50 : decode cX12_readLaw 50 = .ok (.aload_n 0, 1) := by decide +kernel
theorem dX12_readLaw_51 : decode cX12_readLaw 51 = .ok (.getfield 55, 3) := by decide +kernel
theorem dX12_readLaw_54 : decode cX12_readLaw 54 = .ok (.iload_n 2, 1) := by decide +kernel
theorem dX12_readLaw_55 : decode cX12_readLaw 55 = .ok (.aload_n 0, 1) := by decide +kernel
theorem dX12_readLaw_56 : decode cX12_readLaw 56 = .ok (.getfield 213, 3) := by decide +kernel
theorem dX12_readLaw_59 : decode cX12_readLaw 59 = .ok (.iastore, 1) := by decide +kernel
theorem dX12_readLaw_60 : decode cX12_readLaw 60 = .ok (.aload_n 0, 1) := by decide +kernel
theorem dX12_readLaw_61 : decode cX12_readLaw 61 = .ok (.iconst 2, 1) := by decide +kernel
theorem dX12_readLaw_62 : decode cX12_readLaw 62 = .ok (.invokevirtual 251, 3) := by decide +kernel
theorem dX12_readLaw_65 : decode cX12_readLaw 65 = .ok (.ifCond .eq 17, 3) := by decide +kernel
theorem dX12_readLaw_68 : decode cX12_readLaw 68 = .ok (.aload_n 0, 1) := by decide +kernel
theorem dX12_readLaw_69 : decode cX12_readLaw 69 = .ok (.invokevirtual 229, 3) := by decide +kernel
theorem dX12_readLaw_72 : decode cX12_readLaw 72 = .ok (.aload_n 0, 1) := by decide +kernel
theorem dX12_readLaw_73 : decode cX12_readLaw 73 = .ok (.invokevirtual 267, 3) := by decide +kernel
theorem dX12_readLaw_76 : decode cX12_readLaw 76 = .ok (.iconst (-1), 1) := by decide +kernel
theorem dX12_readLaw_77 : decode cX12_readLaw 77 = .ok (.if_icmp .ne 5, 3) := by decide +kernel
theorem dX12_readLaw_80 : decode cX12_readLaw 80 = .ok (.iconst (-1), 1) := by decide +kernel
theorem dX12_readLaw_81 : decode cX12_readLaw 81 = .ok (.ireturn, 1) := by decide +kernel
theorem dX12_readLaw_82 : decode cX12_readLaw 82 = .ok (.aload_n 0, 1) := by decide +kernel
theorem dX12_readLaw_83 : decode cX12_readLaw 83 = .ok (.getfield 58, 3) := by decide +kernel
theorem dX12_readLaw_86 : decode cX12_readLaw 86 = .ok (.iload_n 2, 1) := by decide +kernel
theorem dX12_readLaw_87 : decode cX12_readLaw 87 = .ok (.aload_n 0, 1) := by decide +kernel
theorem dX12_readLaw_88 : decode cX12_readLaw 88 = .ok (.getfield 213, 3) := by decide +kernel
theorem dX12_readLaw_91 : decode cX12_readLaw 91 = .ok (.iastore, 1) := by decide +kernel
theorem dX12_readLaw_92 : decode cX12_readLaw 92 = .ok (.aload_n 0, 1) := by decide +kernel
theorem dX12_readLaw_93 : decode cX12_readLaw 93 = .ok (.bipush 59, 2) := by decide +kernel
theorem dX12_readLaw_95 : decode cX12_readLaw 95 = .ok (.invokevirtual 236, 3) := by decide +kernel
theorem dX12_readLaw_98 : decode cX12_readLaw 98 = .ok (.ifCond .ne 9, 3) := by decide +kernel
theorem dX12_readLaw_101 : decode cX12_readLaw 101 = .ok (.aload_n 0, 1) := by decide +kernel
theorem dX12_readLaw_102 : decode cX12_readLaw 102 = .ok (.iconst 1, 1) := by decide +kernel
theorem dX12_readLaw_103 : decode cX12_readLaw 103 = .ok (.invokevirtual 222, 3) := by decide +kernel
theorem dX12_readLaw_106 : decode cX12_readLaw 106 = .ok (.ireturn, 1) := by decide +kernel
theorem dX12_readLaw_107 : decode cX12_readLaw 107 = .ok (.aload_n 0, 1) := by decide +kernel
theorem dX12_readLaw_108 : decode cX12_readLaw 108 = .ok (.invokevirtual 229, 3) := by decide +kernel
theorem dX12_readLaw_111 : decode cX12_readLaw 111 = .ok (.iload_n 1, 1) := by decide +kernel
theorem dX12_readLaw_112 : decode cX12_readLaw 112 = .ok (.iconst 1, 1) := by decide +kernel
theorem dX12_readLaw_113 : decode cX12_readLaw 113 = .ok (.iadd, 1) := by decide +kernel
theorem dX12_readLaw_114 : decode cX12_readLaw 114 = .ok (.istore_n 1, 1) := by decide +kernel
theorem dX12_readLaw_115 : decode cX12_readLaw 115 = .ok (.goto (-113), 3) := by decide +kernel
theorem dX12_readLaw_118 : decode cX12_readLaw 118 = .ok (.aload_n 0, 1) := by decide +kernel
theorem dX12_readLaw_119 : decode cX12_readLaw 119 = .ok (.getfield 188, 3) := by decide +kernel
theorem dX12_readLaw_122 : decode cX12_readLaw 122 = .ok (.ifCond .ne 7, 3) := by decide +kernel
theorem dX12_readLaw_125 : decode cX12_readLaw 125 = .ok (.iload_n 1, 1) := by decide +kernel
theorem dX12_readLaw_126 : decode cX12_readLaw 126 = .ok (.goto 8, 3) := by decide +kernel
theorem dX12_readLaw_129 : decode cX12_readLaw 129 = .ok (.aload_n 0, 1) := by decide +kernel
theorem dX12_readLaw_130 : decode cX12_readLaw 130 = .ok (.iconst 1, 1) := by decide +kernel
theorem dX12_readLaw_131 : decode cX12_readLaw 131 = .ok (.invokevirtual 222, 3) := by decide +kernel
theorem dX12_readLaw_134 : decode cX12_readLaw 134 = .ok (.ireturn, 1) := by decide +kernel
theorem dX12_runs_0 : decode cX12_runs 0 = .ok (.iconst 0, 1) := by decide +kernel
theorem dX12_runs_1 : decode cX12_runs 1 = .ok (.istore 4, 2) := by decide +kernel
theorem dX12_runs_3 : decode cX12_runs 3 = .ok (.sipush 400, 3) := by decide +kernel
theorem dX12_runs_6 : decode cX12_runs 6 = .ok (.iload_n 1, 1) := by decide +kernel
theorem dX12_runs_7 : decode cX12_runs 7 = .ok (.imul, 1) := by decide +kernel
theorem dX12_runs_8 : decode cX12_runs 8 = .ok (.iload_n 2, 1) := by decide +kernel
theorem dX12_runs_9 : decode cX12_runs 9 = .ok (.iadd, 1) := by decide +kernel
theorem dX12_runs_10 : decode cX12_runs 10 = .ok (.istore 5, 2) := by decide +kernel
theorem dX12_runs_12 : decode cX12_runs 12 = .ok (.iload 5, 2) := by decide +kernel
theorem dX12_runs_14 : decode cX12_runs 14 = .ok (.sipush 400, 3) := by decide +kernel
theorem dX12_runs_17 : decode cX12_runs 17 = .ok (.iload_n 1, 1) := by decide +kernel
theorem dX12_runs_18 : decode cX12_runs 18 = .ok (.imul, 1) := by decide +kernel
theorem dX12_runs_19 : decode cX12_runs 19 = .ok (.iload_n 3, 1) := by decide +kernel
theorem dX12_runs_20 : decode cX12_runs 20 = .ok (.iadd, 1) := by decide +kernel
theorem dX12_runs_21 : decode cX12_runs 21 = .ok (.if_icmp .ge 155, 3) := by decide +kernel
theorem dX12_runs_24 : decode cX12_runs 24 = .ok (.aload_n 0, 1) := by decide +kernel
theorem dX12_runs_25 : decode cX12_runs 25 = .ok (.getfield 61, 3) := by decide +kernel
theorem dX12_runs_28 : decode cX12_runs 28 = .ok (.iload 5, 2) := by decide +kernel
theorem dX12_runs_30 : decode cX12_runs 30 = .ok (.iaload, 1) := by decide +kernel
theorem dX12_runs_31 : decode cX12_runs 31 = .ok (.ifCond .eq 14, 3) := by decide +kernel
theorem dX12_runs_34 : decode cX12_runs 34 = .ok (.aload_n 0, 1) := by decide +kernel
theorem dX12_runs_35 : decode cX12_runs 35 = .ok (.getfield 61, 3) := by decide +kernel
theorem dX12_runs_38 : decode cX12_runs 38 = .ok (.iload 5, 2) := by decide +kernel
theorem dX12_runs_40 : decode cX12_runs 40 = .ok (.iaload, 1) := by decide +kernel
theorem dX12_runs_41 : decode cX12_runs 41 = .ok (.iconst 1, 1) := by decide +kernel
theorem dX12_runs_42 : decode cX12_runs 42 = .ok (.if_icmp .ne 51, 3) := by decide +kernel
theorem dX12_runs_45 : decode cX12_runs 45 = .ok (.aload_n 0, 1) := by decide +kernel
theorem dX12_runs_46 : decode cX12_runs 46 = .ok (.getfield 98, 3) := by decide +kernel
theorem dX12_runs_49 : decode cX12_runs 49 = .ok (.iload 4, 2) := by decide +kernel
theorem dX12_runs_51 : decode cX12_runs 51 = .ok (.aload_n 0, 1) := by decide +kernel
theorem dX12_runs_52 : decode cX12_runs 52 = .ok (.getfield 61, 3) := by decide +kernel
theorem dX12_runs_55 : decode cX12_runs 55 = .ok (.iload 5, 2) := by decide +kernel
theorem dX12_runs_57 : decode cX12_runs 57 = .ok (.iaload, 1) := by decide +kernel
theorem dX12_runs_58 : decode cX12_runs 58 = .ok (.ifCond .ne 13, 3) := by decide +kernel
theorem dX12_runs_61 : decode cX12_runs 61 = .ok (.aload_n 0, 1) := by decide +kernel
theorem dX12_runs_62 : decode cX12_runs 62 = .ok (.getfield 64, 3) := by decide +kernel
theorem dX12_runs_65 : decode cX12_runs 65 = .ok (.iload 5, 2) := by decide +kernel
theorem dX12_runs_67 : decode cX12_runs 67 = .ok (.iaload, 1) := by decide +kernel
theorem dX12_runs_68 : decode cX12_runs 68 = .ok (.goto 15, 3) := by decide +kernel
theorem dX12_runs_71 : decode cX12_runs 71 = .ok (.aload_n 0, 1) := by decide +kernel
theorem dX12_runs_72 : decode cX12_runs 72 = .ok (.getfield 95, 3) := by decide +kernel
theorem dX12_runs_75 : decode cX12_runs 75 = .ok (.aload_n 0, 1) := by decide +kernel
theorem dX12_runs_76 : decode cX12_runs 76 = .ok (.getfield 64, 3) := by decide +kernel
theorem dX12_runs_79 : decode cX12_runs 79 = .ok (.iload 5, 2) := by decide +kernel
theorem dX12_runs_81 : decode cX12_runs 81 = .ok (.iaload, 1) := by decide +kernel
theorem dX12_runs_82 : decode cX12_runs 82 = .ok (.iaload, 1) := by decide +kernel
theorem dX12_runs_83 : decode cX12_runs 83 = .ok (.iastore, 1) := by decide +kernel
theorem dX12_runs_84 : decode cX12_runs 84 = .ok (.iload 4, 2) := by decide +kernel
theorem dX12_runs_86 : decode cX12_runs 86 = .ok (.iconst 1, 1) := by decide +kernel
theorem dX12_runs_87 : decode cX12_runs 87 = .ok (.iadd, 1) := by decide +kernel
theorem dX12_runs_88 : decode cX12_runs 88 = .ok (.istore 4, 2) := by decide +kernel
theorem dX12_runs_90 : decode cX12_runs 90 = .ok (.goto 80, 3) := by decide +kernel
theorem dX12_runs_93 : decode cX12_runs 93 = .ok (.aload_n 0, 1) := by decide +kernel
theorem dX12_runs_94 : decode cX12_runs 94 = .ok (.getfield 61, 3) := by decide +kernel
theorem dX12_runs_97 : decode cX12_runs 97 = .ok (.iload 5, 2) := by decide +kernel
theorem dX12_runs_99 : decode cX12_runs 99 = .ok (.iaload, 1) := by decide +kernel
theorem dX12_runs_100 : decode cX12_runs 100 = .ok (.bipush 9, 2) := by decide +kernel
theorem dX12_runs_102 : decode cX12_runs 102 = .ok (.if_icmp .ne 26, 3) := by decide +kernel
theorem dX12_runs_105 : decode cX12_runs 105 = .ok (.aload_n 0, 1) := by decide +kernel
theorem dX12_runs_106 : decode cX12_runs 106 = .ok (.getfield 98, 3) := by decide +kernel
theorem dX12_runs_109 : decode cX12_runs 109 = .ok (.iload 4, 2) := by decide +kernel
theorem dX12_runs_111 : decode cX12_runs 111 = .ok (.iconst 1, 1) := by decide +kernel
theorem dX12_runs_112 : decode cX12_runs 112 = .ok (.isub, 1) := by decide +kernel
theorem dX12_runs_113 : decode cX12_runs 113 = .ok (.iconst 1, 1) := by decide +kernel
theorem dX12_runs_114 : decode cX12_runs 114 = .ok (.aload_n 0, 1) := by decide +kernel
theorem dX12_runs_115 : decode cX12_runs 115 = .ok (.getfield 98, 3) := by decide +kernel
theorem dX12_runs_118 : decode cX12_runs 118 = .ok (.iload 4, 2) := by decide +kernel
theorem dX12_runs_120 : decode cX12_runs 120 = .ok (.iconst 1, 1) := by decide +kernel
theorem dX12_runs_121 : decode cX12_runs 121 = .ok (.isub, 1) := by decide +kernel
theorem dX12_runs_122 : decode cX12_runs 122 = .ok (.iaload, 1) := by decide +kernel
theorem dX12_runs_123 : decode cX12_runs 123 = .ok (.isub, 1) := by decide +kernel
theorem dX12_runs_124 : decode cX12_runs 124 = .ok (.iastore, 1) := by decide +kernel
theorem dX12_runs_125 : decode cX12_runs 125 = .ok (.goto 45, 3) := by decide +kernel
theorem dX12_runs_128 : decode cX12_runs 128 = .ok (.iload 4, 2) := by decide +kernel
theorem dX12_runs_130 : decode cX12_runs 130 = .ok (.iconst 1, 1) := by decide +kernel
theorem dX12_runs_131 : decode cX12_runs 131 = .ok (.isub, 1) := by decide +kernel
theorem dX12_runs_132 : decode cX12_runs 132 = .ok (.istore 4, 2) := by decide +kernel
theorem dX12_runs_134 : decode cX12_runs 134 = .ok (.aload_n 0, 1) := by decide +kernel
theorem dX12_runs_135 : decode cX12_runs 135 = .ok (.getfield 98, 3) := by decide +kernel
theorem dX12_runs_138 : decode cX12_runs 138 = .ok (.iload 4, 2) := by decide +kernel
theorem dX12_runs_140 : decode cX12_runs 140 = .ok (.iconst 1, 1) := by decide +kernel
theorem dX12_runs_141 : decode cX12_runs 141 = .ok (.isub, 1) := by decide +kernel
theorem dX12_runs_142 : decode cX12_runs 142 = .ok (.aload_n 0, 1) := by decide +kernel
theorem dX12_runs_143 : decode cX12_runs 143 = .ok (.aload_n 0, 1) := by decide +kernel
theorem dX12_runs_144 : decode cX12_runs 144 = .ok (.getfield 61, 3) := by decide +kernel
theorem dX12_runs_147 : decode cX12_runs 147 = .ok (.iload 5, 2) := by decide +kernel
theorem dX12_runs_149 : decode cX12_runs 149 = .ok (.iaload, 1) := by decide +kernel
theorem dX12_runs_150 : decode cX12_runs 150 = .ok (.aload_n 0, 1) := by decide +kernel
theorem dX12_runs_151 : decode cX12_runs 151 = .ok (.getfield 98, 3) := by decide +kernel
theorem dX12_runs_154 : decode cX12_runs 154 = .ok (.iload 4, 2) := by decide +kernel
theorem dX12_runs_156 : decode cX12_runs 156 = .ok (.iconst 1, 1) := by decide +kernel
theorem dX12_runs_157 : decode cX12_runs 157 = .ok (.isub, 1) := by decide +kernel
theorem dX12_runs_158 : decode cX12_runs 158 = .ok (.iaload, 1) := by decide +kernel
theorem dX12_runs_159 : decode cX12_runs 159 = .ok (.aload_n 0, 1) := by decide +kernel
theorem dX12_runs_160 : decode cX12_runs 160 = .ok (.getfield 98, 3) := by decide +kernel
theorem dX12_runs_163 : decode cX12_runs 163 = .ok (.iload 4, 2) := by decide +kernel
theorem dX12_runs_165 : decode cX12_runs 165 = .ok (.iaload, 1) := by decide +kernel
theorem dX12_runs_166 : decode cX12_runs 166 = .ok (.invokevirtual 342, 3) := by decide +kernel
theorem dX12_runs_169 : decode cX12_runs 169 = .ok (.iastore, 1) := by decide +kernel
theorem dX12_runs_170 : decode cX12_runs 170 = .ok (.iinc 5 1, 3) := by decide +kernel
theorem dX12_runs_173 : decode cX12_runs 173 = .ok (.goto (-161), 3) := by decide +kernel
theorem dX12_runs_176 : decode cX12_runs 176 = .ok (.aload_n 0, 1) := by decide +kernel
theorem dX12_runs_177 : decode cX12_runs 177 = .ok (.getfield 98, 3) := by decide +kernel
theorem dX12_runs_180 : decode cX12_runs 180 = .ok (.iconst 0, 1) := by decide +kernel
theorem dX12_runs_181 : decode cX12_runs 181 = .ok (.iaload, 1) := by decide +kernel
theorem dX12_runs_182 : decode cX12_runs 182 = .ok (.ireturn, 1) := by decide +kernel
theorem dX12_takesLaw_0 : decode cX12_takesLaw 0 = .ok (.iconst 0, 1) := by decide +kernel
theorem dX12_takesLaw_1 : decode cX12_takesLaw 1 = .ok (.istore_n 2, 1) := by decide +kernel
theorem dX12_takesLaw_2 : decode cX12_takesLaw 2 = .ok (.iload_n 2, 1) := by decide +kernel
theorem dX12_takesLaw_3 : decode cX12_takesLaw 3 = .ok (.iload_n 1, 1) := by decide +kernel
theorem dX12_takesLaw_4 : decode cX12_takesLaw 4 = .ok (.if_icmp .ge 78, 3) := by decide +kernel
theorem dX12_takesLaw_7 : decode cX12_takesLaw 7 = .ok (.aload_n 0, 1) := by decide +kernel
theorem dX12_takesLaw_8 : decode cX12_takesLaw 8 = .ok (.getfield 52, 3) := by decide +kernel
theorem dX12_takesLaw_11 : decode cX12_takesLaw 11 = .ok (.bipush 16, 2) := by decide +kernel
theorem dX12_takesLaw_13 : decode cX12_takesLaw 13 = .ok (.aload_n 0, 1) := by decide +kernel
theorem dX12_takesLaw_14 : decode cX12_takesLaw 14 = .ok (.getfield 216, 3) := by decide +kernel
theorem dX12_takesLaw_17 : decode cX12_takesLaw 17 = .ok (.imul, 1) := by decide +kernel
theorem dX12_takesLaw_18 : decode cX12_takesLaw 18 = .ok (.iload_n 2, 1) := by decide +kernel
theorem dX12_takesLaw_19 : decode cX12_takesLaw 19 = .ok (.iadd, 1) := by decide +kernel
theorem dX12_takesLaw_20 : decode cX12_takesLaw 20 = .ok (.aload_n 0, 1) := by decide +kernel
theorem dX12_takesLaw_21 : decode cX12_takesLaw 21 = .ok (.getfield 52, 3) := by decide +kernel
theorem dX12_takesLaw_24 : decode cX12_takesLaw 24 = .ok (.bipush 32, 2) := by decide +kernel
theorem dX12_takesLaw_26 : decode cX12_takesLaw 26 = .ok (.iload_n 2, 1) := by decide +kernel
theorem dX12_takesLaw_27 : decode cX12_takesLaw 27 = .ok (.iadd, 1) := by decide +kernel
theorem dX12_takesLaw_28 : decode cX12_takesLaw 28 = .ok (.iaload, 1) := by decide +kernel
theorem dX12_takesLaw_29 : decode cX12_takesLaw 29 = .ok (.iastore, 1) := by decide +kernel
theorem dX12_takesLaw_30 : decode cX12_takesLaw 30 = .ok (.aload_n 0, 1) := by decide +kernel
theorem dX12_takesLaw_31 : decode cX12_takesLaw 31 = .ok (.getfield 55, 3) := by decide +kernel
theorem dX12_takesLaw_34 : decode cX12_takesLaw 34 = .ok (.bipush 16, 2) := by decide +kernel
theorem dX12_takesLaw_36 : decode cX12_takesLaw 36 = .ok (.aload_n 0, 1) := by decide +kernel
theorem dX12_takesLaw_37 : decode cX12_takesLaw 37 = .ok (.getfield 216, 3) := by decide +kernel
theorem dX12_takesLaw_40 : decode cX12_takesLaw 40 = .ok (.imul, 1) := by decide +kernel
theorem dX12_takesLaw_41 : decode cX12_takesLaw 41 = .ok (.iload_n 2, 1) := by decide +kernel
theorem dX12_takesLaw_42 : decode cX12_takesLaw 42 = .ok (.iadd, 1) := by decide +kernel
theorem dX12_takesLaw_43 : decode cX12_takesLaw 43 = .ok (.aload_n 0, 1) := by decide +kernel
theorem dX12_takesLaw_44 : decode cX12_takesLaw 44 = .ok (.getfield 55, 3) := by decide +kernel
theorem dX12_takesLaw_47 : decode cX12_takesLaw 47 = .ok (.bipush 32, 2) := by decide +kernel
theorem dX12_takesLaw_49 : decode cX12_takesLaw 49 = .ok (.iload_n 2, 1) := by decide +kernel
theorem dX12_takesLaw_50 : decode cX12_takesLaw 50 = .ok (.iadd, 1) := by decide +kernel
theorem dX12_takesLaw_51 : decode cX12_takesLaw 51 = .ok (.iaload, 1) := by decide +kernel
theorem dX12_takesLaw_52 : decode cX12_takesLaw 52 = .ok (.iastore, 1) := by decide +kernel
theorem dX12_takesLaw_53 : decode cX12_takesLaw 53 = .ok (.aload_n 0, 1) := by decide +kernel
theorem dX12_takesLaw_54 : decode cX12_takesLaw 54 = .ok (.getfield 58, 3) := by decide +kernel
theorem dX12_takesLaw_57 : decode cX12_takesLaw 57 = .ok (.bipush 16, 2) := by decide +kernel
theorem dX12_takesLaw_59 : decode cX12_takesLaw 59 = .ok (.aload_n 0, 1) := by decide +kernel
theorem dX12_takesLaw_60 : decode cX12_takesLaw 60 = .ok (.getfield 216, 3) := by decide +kernel
theorem dX12_takesLaw_63 : decode cX12_takesLaw 63 = .ok (.imul, 1) := by decide +kernel
theorem dX12_takesLaw_64 : decode cX12_takesLaw 64 = .ok (.iload_n 2, 1) := by decide +kernel
theorem dX12_takesLaw_65 : decode cX12_takesLaw 65 = .ok (.iadd, 1) := by decide +kernel
theorem dX12_takesLaw_66 : decode cX12_takesLaw 66 = .ok (.aload_n 0, 1) := by decide +kernel
theorem dX12_takesLaw_67 : decode cX12_takesLaw 67 = .ok (.getfield 58, 3) := by decide +kernel
theorem dX12_takesLaw_70 : decode cX12_takesLaw 70 = .ok (.bipush 32, 2) := by decide +kernel
theorem dX12_takesLaw_72 : decode cX12_takesLaw 72 = .ok (.iload_n 2, 1) := by decide +kernel
theorem dX12_takesLaw_73 : decode cX12_takesLaw 73 = .ok (.iadd, 1) := by decide +kernel
theorem dX12_takesLaw_74 : decode cX12_takesLaw 74 = .ok (.iaload, 1) := by decide +kernel
theorem dX12_takesLaw_75 : decode cX12_takesLaw 75 = .ok (.iastore, 1) := by decide +kernel
theorem dX12_takesLaw_76 : decode cX12_takesLaw 76 = .ok (.iinc 2 1, 3) := by decide +kernel
theorem dX12_takesLaw_79 : decode cX12_takesLaw 79 = .ok (.goto (-77), 3) := by decide +kernel
theorem dX12_takesLaw_82 : decode cX12_takesLaw 82 = .ok (.iconst 0, 1) := by decide +kernel
theorem dX12_takesLaw_83 : decode cX12_takesLaw 83 = .ok (.istore_n 2, 1) := by decide +kernel
theorem dX12_takesLaw_84 : decode cX12_takesLaw 84 = .ok (.iload_n 2, 1) := by decide +kernel
theorem dX12_takesLaw_85 : decode cX12_takesLaw 85 = .ok (.aload_n 0, 1) := by decide +kernel
theorem dX12_takesLaw_86 : decode cX12_takesLaw 86 = .ok (.getfield 213, 3) := by decide +kernel
theorem dX12_takesLaw_89 : decode cX12_takesLaw 89 = .ok (.if_icmp .ge 59, 3) := by decide +kernel
theorem dX12_takesLaw_92 : decode cX12_takesLaw 92 = .ok (.aload_n 0, 1) := by decide +kernel
theorem dX12_takesLaw_93 : decode cX12_takesLaw 93 = .ok (.getfield 61, 3) := by decide +kernel
theorem dX12_takesLaw_96 : decode cX12_takesLaw 96 = .ok (.sipush 400, 3) := by decide +kernel
theorem dX12_takesLaw_99 : decode cX12_takesLaw 99 = .ok (.aload_n 0, 1) := by decide +kernel
theorem dX12_takesLaw_100 : decode cX12_takesLaw 100 = .ok (.getfield 216, 3) := by decide +kernel
theorem dX12_takesLaw_103 : decode cX12_takesLaw 103 = .ok (.imul, 1) := by decide +kernel
theorem dX12_takesLaw_104 : decode cX12_takesLaw 104 = .ok (.iload_n 2, 1) := by decide +kernel
theorem dX12_takesLaw_105 : decode cX12_takesLaw 105 = .ok (.iadd, 1) := by decide +kernel
theorem dX12_takesLaw_106 : decode cX12_takesLaw 106 = .ok (.aload_n 0, 1) := by decide +kernel
theorem dX12_takesLaw_107 : decode cX12_takesLaw 107 = .ok (.getfield 61, 3) := by decide +kernel
theorem dX12_takesLaw_110 : decode cX12_takesLaw 110 = .ok (.sipush 800, 3) := by decide +kernel
theorem dX12_takesLaw_113 : decode cX12_takesLaw 113 = .ok (.iload_n 2, 1) := by decide +kernel
theorem dX12_takesLaw_114 : decode cX12_takesLaw 114 = .ok (.iadd, 1) := by decide +kernel
theorem dX12_takesLaw_115 : decode cX12_takesLaw 115 = .ok (.iaload, 1) := by decide +kernel
theorem dX12_takesLaw_116 : decode cX12_takesLaw 116 = .ok (.iastore, 1) := by decide +kernel
theorem dX12_takesLaw_117 : decode cX12_takesLaw 117 = .ok (.aload_n 0, 1) := by decide +kernel
theorem dX12_takesLaw_118 : decode cX12_takesLaw 118 = .ok (.getfield 64, 3) := by decide +kernel
theorem dX12_takesLaw_121 : decode cX12_takesLaw 121 = .ok (.sipush 400, 3) := by decide +kernel
theorem dX12_takesLaw_124 : decode cX12_takesLaw 124 = .ok (.aload_n 0, 1) := by decide +kernel
theorem dX12_takesLaw_125 : decode cX12_takesLaw 125 = .ok (.getfield 216, 3) := by decide +kernel
theorem dX12_takesLaw_128 : decode cX12_takesLaw 128 = .ok (.imul, 1) := by decide +kernel
theorem dX12_takesLaw_129 : decode cX12_takesLaw 129 = .ok (.iload_n 2, 1) := by decide +kernel
theorem dX12_takesLaw_130 : decode cX12_takesLaw 130 = .ok (.iadd, 1) := by decide +kernel
theorem dX12_takesLaw_131 : decode cX12_takesLaw 131 = .ok (.aload_n 0, 1) := by decide +kernel
theorem dX12_takesLaw_132 : decode cX12_takesLaw 132 = .ok (.getfield 64, 3) := by decide +kernel
theorem dX12_takesLaw_135 : decode cX12_takesLaw 135 = .ok (.sipush 800, 3) := by decide +kernel
theorem dX12_takesLaw_138 : decode cX12_takesLaw 138 = .ok (.iload_n 2, 1) := by decide +kernel
theorem dX12_takesLaw_139 : decode cX12_takesLaw 139 = .ok (.iadd, 1) := by decide +kernel
theorem dX12_takesLaw_140 : decode cX12_takesLaw 140 = .ok (.iaload, 1) := by decide +kernel
theorem dX12_takesLaw_141 : decode cX12_takesLaw 141 = .ok (.iastore, 1) := by decide +kernel
theorem dX12_takesLaw_142 : decode cX12_takesLaw 142 = .ok (.iinc 2 1, 3) := by decide +kernel
theorem dX12_takesLaw_145 : decode cX12_takesLaw 145 = .ok (.goto (-61), 3) := by decide +kernel
theorem dX12_takesLaw_148 : decode cX12_takesLaw 148 = .ok (.aload_n 0, 1) := by decide +kernel
theorem dX12_takesLaw_149 : decode cX12_takesLaw 149 = .ok (.getfield 49, 3) := by decide +kernel
theorem dX12_takesLaw_152 : decode cX12_takesLaw 152 = .ok (.aload_n 0, 1) := by decide +kernel
theorem dX12_takesLaw_153 : decode cX12_takesLaw 153 = .ok (.getfield 216, 3) := by decide +kernel
theorem dX12_takesLaw_156 : decode cX12_takesLaw 156 = .ok (.iload_n 1, 1) := by decide +kernel
theorem dX12_takesLaw_157 : decode cX12_takesLaw 157 = .ok (.iastore, 1) := by decide +kernel
theorem dX12_takesLaw_158 : decode cX12_takesLaw 158 = .ok (.return_, 1) := by decide +kernel
theorem dX12_turnOfHouse_0 : decode cX12_turnOfHouse 0 = .ok (.aload_n 0, 1) := by decide +kernel
theorem dX12_turnOfHouse_1 : decode cX12_turnOfHouse 1 = .ok (.getfield 101, 3) := by decide +kernel
theorem dX12_turnOfHouse_4 : decode cX12_turnOfHouse 4 = .ok (.bipush 10, 2) := by decide +kernel
theorem dX12_turnOfHouse_6 : decode cX12_turnOfHouse 6 = .ok (.aload_n 0, 1) := by decide +kernel
theorem dX12_turnOfHouse_7 : decode cX12_turnOfHouse 7 = .ok (.getfield 7, 3) := by decide +kernel
theorem dX12_turnOfHouse_10 : decode cX12_turnOfHouse 10 = .ok (.iconst 3, 1) := by decide +kernel
theorem dX12_turnOfHouse_11 : decode cX12_turnOfHouse 11 = .ok (.iaload, 1) := by decide +kernel
theorem dX12_turnOfHouse_12 : decode cX12_turnOfHouse 12 = .ok (.imul, 1) := by decide +kernel
theorem dX12_turnOfHouse_13 : decode cX12_turnOfHouse 13 = .ok (.iload_n 1, 1) := by decide +kernel
theorem dX12_turnOfHouse_14 : decode cX12_turnOfHouse 14 = .ok (.iadd, 1) := by decide +kernel
theorem dX12_turnOfHouse_15 : decode cX12_turnOfHouse 15 = .ok (.iaload, 1) := by decide +kernel
theorem dX12_turnOfHouse_16 : decode cX12_turnOfHouse 16 = .ok (.istore_n 2, 1) := by decide +kernel
theorem dX12_turnOfHouse_17 : decode cX12_turnOfHouse 17 = .ok (.aload_n 0, 1) := by decide +kernel
theorem dX12_turnOfHouse_18 : decode cX12_turnOfHouse 18 = .ok (.iload_n 1, 1) := by decide +kernel
theorem dX12_turnOfHouse_19 : decode cX12_turnOfHouse 19 = .ok (.invokevirtual 368, 3) := by decide +kernel
theorem dX12_turnOfHouse_22 : decode cX12_turnOfHouse 22 = .ok (.aload_n 0, 1) := by decide +kernel
theorem dX12_turnOfHouse_23 : decode cX12_turnOfHouse 23 = .ok (.getfield 95, 3) := by decide +kernel
theorem dX12_turnOfHouse_26 : decode cX12_turnOfHouse 26 = .ok (.bipush 8, 2) := by decide +kernel
theorem dX12_turnOfHouse_28 : decode cX12_turnOfHouse 28 = .ok (.iload_n 2, 1) := by decide +kernel
theorem dX12_turnOfHouse_29 : decode cX12_turnOfHouse 29 = .ok (.ldc_w 349, 3) := by decide +kernel
theorem dX12_turnOfHouse_32 : decode cX12_turnOfHouse 32 = .ok (.if_icmp .lt 8, 3) := by decide +kernel
theorem dX12_turnOfHouse_35 : decode cX12_turnOfHouse 35 = .ok (.bipush 99, 2) := by decide +kernel
theorem dX12_turnOfHouse_37 : decode cX12_turnOfHouse 37 = .ok (.goto 4, 3) := by decide +kernel
theorem dX12_turnOfHouse_40 : decode cX12_turnOfHouse 40 = .ok (.iload_n 2, 1) := by decide +kernel
theorem dX12_turnOfHouse_41 : decode cX12_turnOfHouse 41 = .ok (.iastore, 1) := by decide +kernel
theorem dX12_turnOfHouse_42 : decode cX12_turnOfHouse 42 = .ok (.aload_n 0, 1) := by decide +kernel
theorem dX12_turnOfHouse_43 : decode cX12_turnOfHouse 43 = .ok (.getfield 95, 3) := by decide +kernel
theorem dX12_turnOfHouse_46 : decode cX12_turnOfHouse 46 = .ok (.bipush 9, 2) := by decide +kernel
theorem dX12_turnOfHouse_48 : decode cX12_turnOfHouse 48 = .ok (.aload_n 0, 1) := by decide +kernel
theorem dX12_turnOfHouse_49 : decode cX12_turnOfHouse 49 = .ok (.getfield 25, 3) := by decide +kernel
theorem dX12_turnOfHouse_52 : decode cX12_turnOfHouse 52 = .ok (.iload_n 1, 1) := by decide +kernel
theorem dX12_turnOfHouse_53 : decode cX12_turnOfHouse 53 = .ok (.iaload, 1) := by decide +kernel
theorem dX12_turnOfHouse_54 : decode cX12_turnOfHouse 54 = .ok (.iastore, 1) := by decide +kernel
theorem dX12_turnOfHouse_55 : decode cX12_turnOfHouse 55 = .ok (.aload_n 0, 1) := by decide +kernel
theorem dX12_turnOfHouse_56 : decode cX12_turnOfHouse 56 = .ok (.iconst 0, 1) := by decide +kernel
theorem dX12_turnOfHouse_57 : decode cX12_turnOfHouse 57 = .ok (.invokevirtual 371, 3) := by decide +kernel
theorem dX12_turnOfHouse_60 : decode cX12_turnOfHouse 60 = .ok (.istore_n 3, 1) := by decide +kernel
theorem dX12_turnOfHouse_61 : decode cX12_turnOfHouse 61 = .ok (.iload_n 3, 1) := by decide +kernel
theorem dX12_turnOfHouse_62 : decode cX12_turnOfHouse 62 = .ok (.iconst (-1), 1) := by decide +kernel
theorem dX12_turnOfHouse_63 : decode cX12_turnOfHouse 63 = .ok (.if_icmp .ne 12, 3) := by decide +kernel
theorem dX12_turnOfHouse_66 : decode cX12_turnOfHouse 66 = .ok (.aload_n 0, 1) := by decide +kernel
theorem dX12_turnOfHouse_67 : decode cX12_turnOfHouse 67 = .ok (.getfield 95, 3) := by decide +kernel
theorem dX12_turnOfHouse_70 : decode cX12_turnOfHouse 70 = .ok (.iconst 2, 1) := by decide +kernel
theorem dX12_turnOfHouse_71 : decode cX12_turnOfHouse 71 = .ok (.iaload, 1) := by decide +kernel
theorem dX12_turnOfHouse_72 : decode cX12_turnOfHouse 72 = .ok (.goto 20, 3) := by decide +kernel
theorem dX12_turnOfHouse_75 : decode cX12_turnOfHouse 75 = .ok (.aload_n 0, 1) := by decide +kernel
theorem dX12_turnOfHouse_76 : decode cX12_turnOfHouse 76 = .ok (.iconst 0, 1) := by decide +kernel
theorem dX12_turnOfHouse_77 : decode cX12_turnOfHouse 77 = .ok (.aload_n 0, 1) := by decide +kernel
theorem dX12_turnOfHouse_78 : decode cX12_turnOfHouse 78 = .ok (.getfield 52, 3) := by decide +kernel
theorem dX12_turnOfHouse_81 : decode cX12_turnOfHouse 81 = .ok (.iload_n 3, 1) := by decide +kernel
theorem dX12_turnOfHouse_82 : decode cX12_turnOfHouse 82 = .ok (.iaload, 1) := by decide +kernel
theorem dX12_turnOfHouse_83 : decode cX12_turnOfHouse 83 = .ok (.aload_n 0, 1) := by decide +kernel
theorem dX12_turnOfHouse_84 : decode cX12_turnOfHouse 84 = .ok (.getfield 55, 3) := by decide +kernel
theorem dX12_turnOfHouse_87 : decode cX12_turnOfHouse 87 = .ok (.iload_n 3, 1) := by decide +kernel
theorem dX12_turnOfHouse_88 : decode cX12_turnOfHouse 88 = .ok (.iaload, 1) := by decide +kernel
theorem dX12_turnOfHouse_89 : decode cX12_turnOfHouse 89 = .ok (.invokevirtual 346, 3) := by decide +kernel
theorem dX12_turnOfHouse_92 : decode cX12_turnOfHouse 92 = .ok (.ireturn, 1) := by decide +kernel
theorem dX12_twoOf_0 : decode cX12_twoOf 0 = .ok (.iload_n 1, 1) := by decide +kernel
theorem dX12_twoOf_1 : decode cX12_twoOf 1 = .ok (.iconst 2, 1) := by decide +kernel
theorem dX12_twoOf_2 : decode cX12_twoOf 2 = .ok (.if_icmp .ne 7, 3) := by decide +kernel
theorem dX12_twoOf_5 : decode cX12_twoOf 5 = .ok (.iload_n 2, 1) := by decide +kernel
theorem dX12_twoOf_6 : decode cX12_twoOf 6 = .ok (.iload_n 3, 1) := by decide +kernel
theorem dX12_twoOf_7 : decode cX12_twoOf 7 = .ok (.iadd, 1) := by decide +kernel
theorem dX12_twoOf_8 : decode cX12_twoOf 8 = .ok (.ireturn, 1) := by decide +kernel
theorem dX12_twoOf_9 : decode cX12_twoOf 9 = .ok (.iload_n 1, 1) := by decide +kernel
theorem dX12_twoOf_10 : decode cX12_twoOf 10 = .ok (.iconst 3, 1) := by decide +kernel
theorem dX12_twoOf_11 : decode cX12_twoOf 11 = .ok (.if_icmp .ne 7, 3) := by decide +kernel
theorem dX12_twoOf_14 : decode cX12_twoOf 14 = .ok (.iload_n 2, 1) := by decide +kernel
theorem dX12_twoOf_15 : decode cX12_twoOf 15 = .ok (.iload_n 3, 1) := by decide +kernel
theorem dX12_twoOf_16 : decode cX12_twoOf 16 = .ok (.isub, 1) := by decide +kernel
theorem dX12_twoOf_17 : decode cX12_twoOf 17 = .ok (.ireturn, 1) := by decide +kernel
theorem dX12_twoOf_18 : decode cX12_twoOf 18 = .ok (.iload_n 1, 1) := by decide +kernel
theorem dX12_twoOf_19 : decode cX12_twoOf 19 = .ok (.iconst 4, 1) := by decide +kernel
theorem dX12_twoOf_20 : decode cX12_twoOf 20 = .ok (.if_icmp .ne 7, 3) := by decide +kernel
theorem dX12_twoOf_23 : decode cX12_twoOf 23 = .ok (.iload_n 2, 1) := by decide +kernel
theorem dX12_twoOf_24 : decode cX12_twoOf 24 = .ok (.iload_n 3, 1) := by decide +kernel
theorem dX12_twoOf_25 : decode cX12_twoOf 25 = .ok (.imul, 1) := by decide +kernel
theorem dX12_twoOf_26 : decode cX12_twoOf 26 = .ok (.ireturn, 1) := by decide +kernel
theorem dX12_twoOf_27 : decode cX12_twoOf 27 = .ok (.iload_n 1, 1) := by decide +kernel
theorem dX12_twoOf_28 : decode cX12_twoOf 28 = .ok (.iconst 5, 1) := by decide +kernel
theorem dX12_twoOf_29 : decode cX12_twoOf 29 = .ok (.if_icmp .ne 7, 3) := by decide +kernel
theorem dX12_twoOf_32 : decode cX12_twoOf 32 = .ok (.iload_n 2, 1) := by decide +kernel
theorem dX12_twoOf_33 : decode cX12_twoOf 33 = .ok (.iload_n 3, 1) := by decide +kernel
theorem dX12_twoOf_34 : decode cX12_twoOf 34 = .ok (.idiv, 1) := by decide +kernel
theorem dX12_twoOf_35 : decode cX12_twoOf 35 = .ok (.ireturn, 1) := by decide +kernel
theorem dX12_twoOf_36 : decode cX12_twoOf 36 = .ok (.iload_n 1, 1) := by decide +kernel
theorem dX12_twoOf_37 : decode cX12_twoOf 37 = .ok (.bipush 6, 2) := by decide +kernel
theorem dX12_twoOf_39 : decode cX12_twoOf 39 = .ok (.if_icmp .ne 14, 3) := by decide +kernel
theorem dX12_twoOf_42 : decode cX12_twoOf 42 = .ok (.iload_n 2, 1) := by decide +kernel
theorem dX12_twoOf_43 : decode cX12_twoOf 43 = .ok (.iload_n 3, 1) := by decide +kernel
theorem dX12_twoOf_44 : decode cX12_twoOf 44 = .ok (.if_icmp .ge 7, 3) := by decide +kernel
theorem dX12_twoOf_47 : decode cX12_twoOf 47 = .ok (.iconst 1, 1) := by decide +kernel
theorem dX12_twoOf_48 : decode cX12_twoOf 48 = .ok (.goto 4, 3) := by decide +kernel
theorem dX12_twoOf_51 : decode cX12_twoOf 51 = .ok (.iconst 0, 1) := by decide +kernel
theorem dX12_twoOf_52 : decode cX12_twoOf 52 = .ok (.ireturn, 1) := by decide +kernel
theorem dX12_twoOf_53 : decode cX12_twoOf 53 = .ok (.iload_n 1, 1) := by decide +kernel
theorem dX12_twoOf_54 : decode cX12_twoOf 54 = .ok (.bipush 7, 2) := by decide +kernel
theorem dX12_twoOf_56 : decode cX12_twoOf 56 = .ok (.if_icmp .ne 14, 3) := by decide +kernel
theorem dX12_twoOf_59 : decode cX12_twoOf 59 = .ok (.iload_n 2, 1) := by decide +kernel
theorem dX12_twoOf_60 : decode cX12_twoOf 60 = .ok (.iload_n 3, 1) := by decide +kernel
theorem dX12_twoOf_61 : decode cX12_twoOf 61 = .ok (.if_icmp .ne 7, 3) := by decide +kernel
theorem dX12_twoOf_64 : decode cX12_twoOf 64 = .ok (.iconst 1, 1) := by decide +kernel
theorem dX12_twoOf_65 : decode cX12_twoOf 65 = .ok (.goto 4, 3) := by decide +kernel
theorem dX12_twoOf_68 : decode cX12_twoOf 68 = .ok (.iconst 0, 1) := by decide +kernel
theorem dX12_twoOf_69 : decode cX12_twoOf 69 = .ok (.ireturn, 1) := by decide +kernel
theorem dX12_twoOf_70 : decode cX12_twoOf 70 = .ok (.iload_n 1, 1) := by decide +kernel
theorem dX12_twoOf_71 : decode cX12_twoOf 71 = .ok (.bipush 8, 2) := by decide +kernel
theorem dX12_twoOf_73 : decode cX12_twoOf 73 = .ok (.if_icmp .ne 14, 3) := by decide +kernel
theorem dX12_twoOf_76 : decode cX12_twoOf 76 = .ok (.iload_n 2, 1) := by decide +kernel
theorem dX12_twoOf_77 : decode cX12_twoOf 77 = .ok (.iload_n 3, 1) := by decide +kernel
theorem dX12_twoOf_78 : decode cX12_twoOf 78 = .ok (.if_icmp .le 7, 3) := by decide +kernel
theorem dX12_twoOf_81 : decode cX12_twoOf 81 = .ok (.iconst 1, 1) := by decide +kernel
theorem dX12_twoOf_82 : decode cX12_twoOf 82 = .ok (.goto 4, 3) := by decide +kernel
theorem dX12_twoOf_85 : decode cX12_twoOf 85 = .ok (.iconst 0, 1) := by decide +kernel
theorem dX12_twoOf_86 : decode cX12_twoOf 86 = .ok (.ireturn, 1) := by decide +kernel
theorem dX12_twoOf_87 : decode cX12_twoOf 87 = .ok (.iload_n 1, 1) := by decide +kernel
theorem dX12_twoOf_88 : decode cX12_twoOf 88 = .ok (.bipush 10, 2) := by decide +kernel
theorem dX12_twoOf_90 : decode cX12_twoOf 90 = .ok (.if_icmp .ne 9, 3) := by decide +kernel
theorem dX12_twoOf_93 : decode cX12_twoOf 93 = .ok (.iload_n 2, 1) := by decide +kernel
theorem dX12_twoOf_94 : decode cX12_twoOf 94 = .ok (.iload_n 3, 1) := by decide +kernel
theorem dX12_twoOf_95 : decode cX12_twoOf 95 = .ok (.imul, 1) := by decide +kernel
theorem dX12_twoOf_96 : decode cX12_twoOf 96 = .ok (.goto 14, 3) := by decide +kernel
theorem dX12_twoOf_99 : decode cX12_twoOf 99 = .ok (.iload_n 2, 1) := by decide +kernel
theorem dX12_twoOf_100 : decode cX12_twoOf 100 = .ok (.iload_n 3, 1) := by decide +kernel
theorem dX12_twoOf_101 : decode cX12_twoOf 101 = .ok (.iadd, 1) := by decide +kernel
theorem dX12_twoOf_102 : decode cX12_twoOf 102 = .ok (.ifCond .le 7, 3) := by decide +kernel
theorem dX12_twoOf_105 : decode cX12_twoOf 105 = .ok (.iconst 1, 1) := by decide +kernel
theorem dX12_twoOf_106 : decode cX12_twoOf 106 = .ok (.goto 4, 3) := by decide +kernel
theorem dX12_twoOf_109 : decode cX12_twoOf 109 = .ok (.iconst 0, 1) := by decide +kernel
theorem dX12_twoOf_110 : decode cX12_twoOf 110 = .ok (.ireturn, 1) := by decide +kernel
theorem q_102 : Cond.selects RX12 yX12_lineOf yX12_lineOf ∈ GW := inG 102 (by decide +kernel) (by decide +kernel)
theorem q_103 : Cond.selects RX12 yX12_runs yX12_runs ∈ GW := inG 103 (by decide +kernel) (by decide +kernel)
theorem q_104 : Cond.selects RX12 yX12_twoOf yX12_twoOf ∈ GW := inG 104 (by decide +kernel) (by decide +kernel)
theorem q_1427 : Cond.fieldLink RX12 52 "LampRoundModel" "lineFrom" "[I" ∈ GW := inG 1427 (by decide +kernel) (by decide +kernel)
theorem q_1428 : Cond.fieldLink RX12 55 "LampRoundModel" "lineWhen" "[I" ∈ GW := inG 1428 (by decide +kernel) (by decide +kernel)
theorem q_1429 : Cond.fieldLink RX12 58 "LampRoundModel" "lineTo" "[I" ∈ GW := inG 1429 (by decide +kernel) (by decide +kernel)
theorem q_1452 : Cond.fieldLink RX12 95 "LampRoundModel" "asked" "[I" ∈ GW := inG 1452 (by decide +kernel) (by decide +kernel)
theorem q_1453 : Cond.fieldLink RX12 98 "LampRoundModel" "stack" "[I" ∈ GW := inG 1453 (by decide +kernel) (by decide +kernel)
theorem q_1766 : Cond.methodLink RX12 263 yX12_isLineWord ∈ GW := inG 1766 (by decide +kernel) (by decide +kernel)
theorem q_1768 : Cond.instanceMethod yX12_isLineWord ∈ GW := inG 1768 (by decide +kernel) (by decide +kernel)
theorem q_1769 : Cond.code yX12_isLineWord cX12_isLineWord 1 (some .boolean) ∈ GW := inG 1769 (by decide +kernel) (by decide +kernel)
theorem q_1790 : Cond.methodLink RX12 267 yX12_readAny ∈ GW := inG 1790 (by decide +kernel) (by decide +kernel)
theorem q_1792 : Cond.instanceMethod yX12_readAny ∈ GW := inG 1792 (by decide +kernel) (by decide +kernel)
theorem q_1793 : Cond.code yX12_readAny cX12_readAny 4 (some .int) ∈ GW := inG 1793 (by decide +kernel) (by decide +kernel)
theorem q_1859 : Cond.methodLink RX12 368 yX12_asks ∈ GW := inG 1859 (by decide +kernel) (by decide +kernel)
theorem q_1861 : Cond.instanceMethod yX12_asks ∈ GW := inG 1861 (by decide +kernel) (by decide +kernel)
theorem q_1862 : Cond.code yX12_asks cX12_asks 2 none ∈ GW := inG 1862 (by decide +kernel) (by decide +kernel)
theorem q_1867 : Cond.methodLink RX12 365 yX12_worthAt ∈ GW := inG 1867 (by decide +kernel) (by decide +kernel)
theorem q_1869 : Cond.instanceMethod yX12_worthAt ∈ GW := inG 1869 (by decide +kernel) (by decide +kernel)
theorem q_1870 : Cond.code yX12_worthAt cX12_worthAt 4 (some .int) ∈ GW := inG 1870 (by decide +kernel) (by decide +kernel)
theorem q_1879 : Cond.methodLink RX12 371 yX12_lineOf ∈ GW := inG 1879 (by decide +kernel) (by decide +kernel)
theorem q_1881 : Cond.instanceMethod yX12_lineOf ∈ GW := inG 1881 (by decide +kernel) (by decide +kernel)
theorem q_1882 : Cond.code yX12_lineOf cX12_lineOf 4 (some .int) ∈ GW := inG 1882 (by decide +kernel) (by decide +kernel)
theorem q_1883 : Cond.methodLink RX12 346 yX12_runs ∈ GW := inG 1883 (by decide +kernel) (by decide +kernel)
theorem q_1885 : Cond.instanceMethod yX12_runs ∈ GW := inG 1885 (by decide +kernel) (by decide +kernel)
theorem q_1886 : Cond.code yX12_runs cX12_runs 6 (some .int) ∈ GW := inG 1886 (by decide +kernel) (by decide +kernel)
theorem q_1887 : Cond.methodLink RX12 342 yX12_twoOf ∈ GW := inG 1887 (by decide +kernel) (by decide +kernel)
theorem q_1889 : Cond.instanceMethod yX12_twoOf ∈ GW := inG 1889 (by decide +kernel) (by decide +kernel)
theorem q_1890 : Cond.code yX12_twoOf cX12_twoOf 4 (some .int) ∈ GW := inG 1890 (by decide +kernel) (by decide +kernel)
theorem q_77 : Cond.selects RX12 yX12_isLineWord yX12_isLineWord ∈ GW := inG 77 (by decide +kernel) (by decide +kernel)
theorem q_83 : Cond.selects RX12 yX12_readAny yX12_readAny ∈ GW := inG 83 (by decide +kernel) (by decide +kernel)
theorem q_97 : Cond.selects RX12 yX12_asks yX12_asks ∈ GW := inG 97 (by decide +kernel) (by decide +kernel)
theorem q_99 : Cond.selects RX12 yX12_worthAt yX12_worthAt ∈ GW := inG 99 (by decide +kernel) (by decide +kernel)
theorem hdV_X12_asks : yX12_asks.cls = RX12 ∧ yX12_asks.cls ≠ "java/lang/invoke/MethodHandle" ∧ yX12_asks.cls ≠ "java/lang/invoke/VarHandle" ∧ (parseMethodDescriptor yX12_asks.desc).map (fun d => d.parameters.length) = some 1 := by decide +kernel
theorem hdV_X12_isLineWord : yX12_isLineWord.cls = RX12 ∧ yX12_isLineWord.cls ≠ "java/lang/invoke/MethodHandle" ∧ yX12_isLineWord.cls ≠ "java/lang/invoke/VarHandle" ∧ (parseMethodDescriptor yX12_isLineWord.desc).map (fun d => d.parameters.length) = some 0 := by decide +kernel
theorem hdV_X12_lineOf : yX12_lineOf.cls = RX12 ∧ yX12_lineOf.cls ≠ "java/lang/invoke/MethodHandle" ∧ yX12_lineOf.cls ≠ "java/lang/invoke/VarHandle" ∧ (parseMethodDescriptor yX12_lineOf.desc).map (fun d => d.parameters.length) = some 1 := by decide +kernel
theorem hdV_X12_readAny : yX12_readAny.cls = RX12 ∧ yX12_readAny.cls ≠ "java/lang/invoke/MethodHandle" ∧ yX12_readAny.cls ≠ "java/lang/invoke/VarHandle" ∧ (parseMethodDescriptor yX12_readAny.desc).map (fun d => d.parameters.length) = some 0 := by decide +kernel
theorem hdV_X12_runs : yX12_runs.cls = RX12 ∧ yX12_runs.cls ≠ "java/lang/invoke/MethodHandle" ∧ yX12_runs.cls ≠ "java/lang/invoke/VarHandle" ∧ (parseMethodDescriptor yX12_runs.desc).map (fun d => d.parameters.length) = some 3 := by decide +kernel
theorem hdV_X12_twoOf : yX12_twoOf.cls = RX12 ∧ yX12_twoOf.cls ≠ "java/lang/invoke/MethodHandle" ∧ yX12_twoOf.cls ≠ "java/lang/invoke/VarHandle" ∧ (parseMethodDescriptor yX12_twoOf.desc).map (fun d => d.parameters.length) = some 3 := by decide +kernel
theorem hdV_X12_worthAt : yX12_worthAt.cls = RX12 ∧ yX12_worthAt.cls ≠ "java/lang/invoke/MethodHandle" ∧ yX12_worthAt.cls ≠ "java/lang/invoke/VarHandle" ∧ (parseMethodDescriptor yX12_worthAt.desc).map (fun d => d.parameters.length) = some 1 := by decide +kernel
