theorem dX6_choose_0 : decode cX6_choose 0 = .ok (.aload_n 0, 1) := by decide +kernel
theorem dX6_choose_1 : decode cX6_choose 1 = .ok (.iconst (-1), 1) := by decide +kernel
theorem dX6_choose_2 : decode cX6_choose 2 = .ok (.putfield 146, 3) := by decide +kernel
theorem dX6_choose_5 : decode cX6_choose 5 = .ok (.aload_n 0, 1) := by decide +kernel
theorem dX6_choose_6 : decode cX6_choose 6 = .ok (.lconst 0, 1) := by decide +kernel
theorem dX6_choose_7 : decode cX6_choose 7 = .ok (.putfield 149, 3) := by decide +kernel
theorem dX6_choose_10 : decode cX6_choose 10 = .ok (.iconst 0, 1) := by decide +kernel
theorem dX6_choose_11 : decode cX6_choose 11 = .ok (.istore 4, 2) := by decide +kernel
theorem dX6_choose_13 : decode cX6_choose 13 = .ok (.iload 4, 2) := by decide +kernel
theorem dX6_choose_15 : decode cX6_choose 15 = .ok (.iload_n 3, 1) := by decide +kernel
theorem dX6_choose_16 : decode cX6_choose 16 = .ok (.if_icmp .ge 108, 3) := by decide +kernel
theorem dX6_choose_19 : decode cX6_choose 19 = .ok (.aload_n 0, 1) := by decide +kernel
theorem dX6_choose_20 : decode cX6_choose 20 = .ok (.aload_n 1, 1) := by decide +kernel
theorem dX6_choose_21 : decode cX6_choose 21 = .ok (.iload 4, 2) := by decide +kernel
theorem dX6_choose_23 : decode cX6_choose 23 = .ok (.invokevirtual 153, 3) := by decide +kernel
theorem dX6_choose_26 : decode cX6_choose 26 = .ok (.istore 5, 2) := by decide +kernel
theorem dX6_choose_28 : decode cX6_choose 28 = .ok (.iconst 0, 1) := by decide +kernel
theorem dX6_choose_29 : decode cX6_choose 29 = .ok (.istore 6, 2) := by decide +kernel
theorem dX6_choose_31 : decode cX6_choose 31 = .ok (.iload 6, 2) := by decide +kernel
theorem dX6_choose_33 : decode cX6_choose 33 = .ok (.iload_n 2, 1) := by decide +kernel
theorem dX6_choose_34 : decode cX6_choose 34 = .ok (.if_icmp .ge 84, 3) := by decide +kernel
theorem dX6_choose_37 : decode cX6_choose 37 = .ok (.aload_n 0, 1) := by decide +kernel
theorem dX6_choose_38 : decode cX6_choose 38 = .ok (.getfield 9, 3) := by decide +kernel
theorem dX6_choose_41 : decode cX6_choose 41 = .ok (.iload 4, 2) := by decide +kernel
theorem dX6_choose_43 : decode cX6_choose 43 = .ok (.iload_n 2, 1) := by decide +kernel
theorem dX6_choose_44 : decode cX6_choose 44 = .ok (.imul, 1) := by decide +kernel
theorem dX6_choose_45 : decode cX6_choose 45 = .ok (.iload 6, 2) := by decide +kernel
theorem dX6_choose_47 : decode cX6_choose 47 = .ok (.iadd, 1) := by decide +kernel
theorem dX6_choose_48 : decode cX6_choose 48 = .ok (.laload, 1) := by decide +kernel
theorem dX6_choose_49 : decode cX6_choose 49 = .ok (.lstore 7, 2) := by decide +kernel
theorem dX6_choose_51 : decode cX6_choose 51 = .ok (.iload 5, 2) := by decide +kernel
theorem dX6_choose_53 : decode cX6_choose 53 = .ok (.aload_n 0, 1) := by decide +kernel
theorem dX6_choose_54 : decode cX6_choose 54 = .ok (.getfield 146, 3) := by decide +kernel
theorem dX6_choose_57 : decode cX6_choose 57 = .ok (.if_icmp .gt 22, 3) := by decide +kernel
theorem dX6_choose_60 : decode cX6_choose 60 = .ok (.iload 5, 2) := by decide +kernel
theorem dX6_choose_62 : decode cX6_choose 62 = .ok (.aload_n 0, 1) := by decide +kernel
theorem dX6_choose_63 : decode cX6_choose 63 = .ok (.getfield 146, 3) := by decide +kernel
theorem dX6_choose_66 : decode cX6_choose 66 = .ok (.if_icmp .ne 17, 3) := by decide +kernel
theorem dX6_choose_69 : decode cX6_choose 69 = .ok (.lload 7, 2) := by decide +kernel
theorem dX6_choose_71 : decode cX6_choose 71 = .ok (.aload_n 0, 1) := by decide +kernel
theorem dX6_choose_72 : decode cX6_choose 72 = .ok (.getfield 149, 3) := by decide +kernel
theorem dX6_choose_75 : decode cX6_choose 75 = .ok (.lcmp, 1) := by decide +kernel
theorem dX6_choose_76 : decode cX6_choose 76 = .ok (.ifCond .ge 7, 3) := by decide +kernel
theorem dX6_choose_79 : decode cX6_choose 79 = .ok (.iconst 1, 1) := by decide +kernel
theorem dX6_choose_80 : decode cX6_choose 80 = .ok (.goto 4, 3) := by decide +kernel
theorem dX6_choose_83 : decode cX6_choose 83 = .ok (.iconst 0, 1) := by decide +kernel
theorem dX6_choose_84 : decode cX6_choose 84 = .ok (.istore 9, 2) := by decide +kernel
theorem dX6_choose_86 : decode cX6_choose 86 = .ok (.lload 7, 2) := by decide +kernel
theorem dX6_choose_88 : decode cX6_choose 88 = .ok (.ldc2_w 54, 3) := by decide +kernel
theorem dX6_choose_91 : decode cX6_choose 91 = .ok (.lcmp, 1) := by decide +kernel
theorem dX6_choose_92 : decode cX6_choose 92 = .ok (.ifCond .eq 20, 3) := by decide +kernel
theorem dX6_choose_95 : decode cX6_choose 95 = .ok (.iload 9, 2) := by decide +kernel
theorem dX6_choose_97 : decode cX6_choose 97 = .ok (.ifCond .eq 15, 3) := by decide +kernel
theorem dX6_choose_100 : decode cX6_choose 100 = .ok (.aload_n 0, 1) := by decide +kernel
theorem dX6_choose_101 : decode cX6_choose 101 = .ok (.iload 5, 2) := by decide +kernel
theorem dX6_choose_103 : decode cX6_choose 103 = .ok (.putfield 146, 3) := by decide +kernel
theorem dX6_choose_106 : decode cX6_choose 106 = .ok (.aload_n 0, 1) := by decide +kernel
theorem dX6_choose_107 : decode cX6_choose 107 = .ok (.lload 7, 2) := by decide +kernel
theorem dX6_choose_109 : decode cX6_choose 109 = .ok (.putfield 149, 3) := by decide +kernel
theorem dX6_choose_112 : decode cX6_choose 112 = .ok (.iinc 6 1, 3) := by decide +kernel
theorem dX6_choose_115 : decode cX6_choose 115 = .ok (.goto (-84), 3) := by decide +kernel
theorem dX6_choose_118 : decode cX6_choose 118 = .ok (.iinc 4 1, 3) := by decide +kernel
theorem dX6_choose_121 : decode cX6_choose 121 = .ok (.goto (-108), 3) := by decide +kernel
theorem dX6_choose_124 : decode cX6_choose 124 = .ok (.return_, 1) := by decide +kernel
theorem dX6_gatherHops_0 : decode cX6_gatherHops 0 = .ok (.iconst 0, 1) := by decide +kernel
theorem dX6_gatherHops_1 : decode cX6_gatherHops 1 = .ok (.istore_n 2, 1) := by decide +kernel
theorem dX6_gatherHops_2 : decode cX6_gatherHops 2 = .ok (.iload_n 2, 1) := by decide +kernel
theorem dX6_gatherHops_3 : decode cX6_gatherHops 3 = .ok (.aload_n 1, 1) := by decide +kernel
theorem dX6_gatherHops_4 : decode cX6_gatherHops 4 = .ok (.getfield 39, 3) := by decide +kernel
theorem dX6_gatherHops_7 : decode cX6_gatherHops 7 = .ok (.getfield 45, 3) := by decide +kernel
theorem dX6_gatherHops_10 : decode cX6_gatherHops 10 = .ok (.if_icmp .ge 72, 3) := by decide +kernel
theorem dX6_gatherHops_13 : decode cX6_gatherHops 13 = .ok (.iconst 0, 1) := by decide +kernel
theorem dX6_gatherHops_14 : decode cX6_gatherHops 14 = .ok (.istore_n 3, 1) := by decide +kernel
theorem dX6_gatherHops_15 : decode cX6_gatherHops 15 = .ok (.iload_n 3, 1) := by decide +kernel
theorem dX6_gatherHops_16 : decode cX6_gatherHops 16 = .ok (.aload_n 1, 1) := by decide +kernel
theorem dX6_gatherHops_17 : decode cX6_gatherHops 17 = .ok (.getfield 39, 3) := by decide +kernel
theorem dX6_gatherHops_20 : decode cX6_gatherHops 20 = .ok (.getfield 45, 3) := by decide +kernel
theorem dX6_gatherHops_23 : decode cX6_gatherHops 23 = .ok (.if_icmp .ge 53, 3) := by decide +kernel
theorem dX6_gatherHops_26 : decode cX6_gatherHops 26 = .ok (.aload_n 1, 1) := by decide +kernel
theorem dX6_gatherHops_27 : decode cX6_gatherHops 27 = .ok (.getfield 111, 3) := by decide +kernel
theorem dX6_gatherHops_30 : decode cX6_gatherHops 30 = .ok (.iload_n 2, 1) := by decide +kernel
theorem dX6_gatherHops_31 : decode cX6_gatherHops 31 = .ok (.iload_n 3, 1) := by decide +kernel
theorem dX6_gatherHops_32 : decode cX6_gatherHops 32 = .ok (.aload_n 1, 1) := by decide +kernel
theorem dX6_gatherHops_33 : decode cX6_gatherHops 33 = .ok (.getfield 56, 3) := by decide +kernel
theorem dX6_gatherHops_36 : decode cX6_gatherHops 36 = .ok (.getfield 115, 3) := by decide +kernel
theorem dX6_gatherHops_39 : decode cX6_gatherHops 39 = .ok (.invokevirtual 118, 3) := by decide +kernel
theorem dX6_gatherHops_42 : decode cX6_gatherHops 42 = .ok (.istore 4, 2) := by decide +kernel
theorem dX6_gatherHops_44 : decode cX6_gatherHops 44 = .ok (.aload_n 0, 1) := by decide +kernel
theorem dX6_gatherHops_45 : decode cX6_gatherHops 45 = .ok (.getfield 18, 3) := by decide +kernel
theorem dX6_gatherHops_48 : decode cX6_gatherHops 48 = .ok (.iload_n 2, 1) := by decide +kernel
theorem dX6_gatherHops_49 : decode cX6_gatherHops 49 = .ok (.bipush 10, 2) := by decide +kernel
theorem dX6_gatherHops_51 : decode cX6_gatherHops 51 = .ok (.imul, 1) := by decide +kernel
theorem dX6_gatherHops_52 : decode cX6_gatherHops 52 = .ok (.iload_n 3, 1) := by decide +kernel
theorem dX6_gatherHops_53 : decode cX6_gatherHops 53 = .ok (.iadd, 1) := by decide +kernel
theorem dX6_gatherHops_54 : decode cX6_gatherHops 54 = .ok (.iload 4, 2) := by decide +kernel
theorem dX6_gatherHops_56 : decode cX6_gatherHops 56 = .ok (.aload_n 1, 1) := by decide +kernel
theorem dX6_gatherHops_57 : decode cX6_gatherHops 57 = .ok (.getfield 124, 3) := by decide +kernel
theorem dX6_gatherHops_60 : decode cX6_gatherHops 60 = .ok (.if_icmp .gt 8, 3) := by decide +kernel
theorem dX6_gatherHops_63 : decode cX6_gatherHops 63 = .ok (.iload 4, 2) := by decide +kernel
theorem dX6_gatherHops_65 : decode cX6_gatherHops 65 = .ok (.goto 4, 3) := by decide +kernel
theorem dX6_gatherHops_68 : decode cX6_gatherHops 68 = .ok (.iconst (-1), 1) := by decide +kernel
theorem dX6_gatherHops_69 : decode cX6_gatherHops 69 = .ok (.iastore, 1) := by decide +kernel
theorem dX6_gatherHops_70 : decode cX6_gatherHops 70 = .ok (.iinc 3 1, 3) := by decide +kernel
theorem dX6_gatherHops_73 : decode cX6_gatherHops 73 = .ok (.goto (-58), 3) := by decide +kernel
theorem dX6_gatherHops_76 : decode cX6_gatherHops 76 = .ok (.iinc 2 1, 3) := by decide +kernel
theorem dX6_gatherHops_79 : decode cX6_gatherHops 79 = .ok (.goto (-77), 3) := by decide +kernel
theorem dX6_gatherHops_82 : decode cX6_gatherHops 82 = .ok (.return_, 1) := by decide +kernel
theorem dX6_gatherNeeds_0 : decode cX6_gatherNeeds 0 = .ok (.aload_n 1, 1) := by decide +kernel
theorem dX6_gatherNeeds_1 : decode cX6_gatherNeeds 1 = .ok (.getfield 56, 3) := by decide +kernel
theorem dX6_gatherNeeds_4 : decode cX6_gatherNeeds 4 = .ok (.getfield 89, 3) := by decide +kernel
theorem dX6_gatherNeeds_7 : decode cX6_gatherNeeds 7 = .ok (.istore_n 3, 1) := by decide +kernel
theorem dX6_gatherNeeds_8 : decode cX6_gatherNeeds 8 = .ok (.aload_n 0, 1) := by decide +kernel
theorem dX6_gatherNeeds_9 : decode cX6_gatherNeeds 9 = .ok (.iconst 0, 1) := by decide +kernel
theorem dX6_gatherNeeds_10 : decode cX6_gatherNeeds 10 = .ok (.putfield 51, 3) := by decide +kernel
theorem dX6_gatherNeeds_13 : decode cX6_gatherNeeds 13 = .ok (.iconst 0, 1) := by decide +kernel
theorem dX6_gatherNeeds_14 : decode cX6_gatherNeeds 14 = .ok (.istore 4, 2) := by decide +kernel
theorem dX6_gatherNeeds_16 : decode cX6_gatherNeeds 16 = .ok (.iload 4, 2) := by decide +kernel
theorem dX6_gatherNeeds_18 : decode cX6_gatherNeeds 18 = .ok (.aload_n 1, 1) := by decide +kernel
theorem dX6_gatherNeeds_19 : decode cX6_gatherNeeds 19 = .ok (.getfield 92, 3) := by decide +kernel
theorem dX6_gatherNeeds_22 : decode cX6_gatherNeeds 22 = .ok (.getfield 96, 3) := by decide +kernel
theorem dX6_gatherNeeds_25 : decode cX6_gatherNeeds 25 = .ok (.if_icmp .ge 109, 3) := by decide +kernel
theorem dX6_gatherNeeds_28 : decode cX6_gatherNeeds 28 = .ok (.iload 4, 2) := by decide +kernel
theorem dX6_gatherNeeds_30 : decode cX6_gatherNeeds 30 = .ok (.bipush 10, 2) := by decide +kernel
theorem dX6_gatherNeeds_32 : decode cX6_gatherNeeds 32 = .ok (.if_icmp .ge 102, 3) := by decide +kernel
theorem dX6_gatherNeeds_35 : decode cX6_gatherNeeds 35 = .ok (.aload_n 1, 1) := by decide +kernel
theorem dX6_gatherNeeds_36 : decode cX6_gatherNeeds 36 = .ok (.getfield 56, 3) := by decide +kernel
theorem dX6_gatherNeeds_39 : decode cX6_gatherNeeds 39 = .ok (.getfield 99, 3) := by decide +kernel
theorem dX6_gatherNeeds_42 : decode cX6_gatherNeeds 42 = .ok (.iload 4, 2) := by decide +kernel
theorem dX6_gatherNeeds_44 : decode cX6_gatherNeeds 44 = .ok (.iaload, 1) := by decide +kernel
theorem dX6_gatherNeeds_45 : decode cX6_gatherNeeds 45 = .ok (.iconst (-1), 1) := by decide +kernel
theorem dX6_gatherNeeds_46 : decode cX6_gatherNeeds 46 = .ok (.if_icmp .ne 19, 3) := by decide +kernel
theorem dX6_gatherNeeds_49 : decode cX6_gatherNeeds 49 = .ok (.aload_n 1, 1) := by decide +kernel
theorem dX6_gatherNeeds_50 : decode cX6_gatherNeeds 50 = .ok (.getfield 56, 3) := by decide +kernel
theorem dX6_gatherNeeds_53 : decode cX6_gatherNeeds 53 = .ok (.getfield 102, 3) := by decide +kernel
theorem dX6_gatherNeeds_56 : decode cX6_gatherNeeds 56 = .ok (.iload 4, 2) := by decide +kernel
theorem dX6_gatherNeeds_58 : decode cX6_gatherNeeds 58 = .ok (.ishr, 1) := by decide +kernel
theorem dX6_gatherNeeds_59 : decode cX6_gatherNeeds 59 = .ok (.iconst 1, 1) := by decide +kernel
theorem dX6_gatherNeeds_60 : decode cX6_gatherNeeds 60 = .ok (.iand, 1) := by decide +kernel
theorem dX6_gatherNeeds_61 : decode cX6_gatherNeeds 61 = .ok (.iconst 1, 1) := by decide +kernel
theorem dX6_gatherNeeds_62 : decode cX6_gatherNeeds 62 = .ok (.if_icmp .ne 7, 3) := by decide +kernel
theorem dX6_gatherNeeds_65 : decode cX6_gatherNeeds 65 = .ok (.iconst 1, 1) := by decide +kernel
theorem dX6_gatherNeeds_66 : decode cX6_gatherNeeds 66 = .ok (.goto 4, 3) := by decide +kernel
theorem dX6_gatherNeeds_69 : decode cX6_gatherNeeds 69 = .ok (.iconst 0, 1) := by decide +kernel
theorem dX6_gatherNeeds_70 : decode cX6_gatherNeeds 70 = .ok (.istore 5, 2) := by decide +kernel
theorem dX6_gatherNeeds_72 : decode cX6_gatherNeeds 72 = .ok (.iload 5, 2) := by decide +kernel
theorem dX6_gatherNeeds_74 : decode cX6_gatherNeeds 74 = .ok (.ifCond .ne 54, 3) := by decide +kernel
theorem dX6_gatherNeeds_77 : decode cX6_gatherNeeds 77 = .ok (.aload_n 1, 1) := by decide +kernel
theorem dX6_gatherNeeds_78 : decode cX6_gatherNeeds 78 = .ok (.getfield 92, 3) := by decide +kernel
theorem dX6_gatherNeeds_81 : decode cX6_gatherNeeds 81 = .ok (.getfield 105, 3) := by decide +kernel
theorem dX6_gatherNeeds_84 : decode cX6_gatherNeeds 84 = .ok (.iload 4, 2) := by decide +kernel
theorem dX6_gatherNeeds_86 : decode cX6_gatherNeeds 86 = .ok (.iaload, 1) := by decide +kernel
theorem dX6_gatherNeeds_87 : decode cX6_gatherNeeds 87 = .ok (.iload_n 3, 1) := by decide +kernel
theorem dX6_gatherNeeds_88 : decode cX6_gatherNeeds 88 = .ok (.iload_n 2, 1) := by decide +kernel
theorem dX6_gatherNeeds_89 : decode cX6_gatherNeeds 89 = .ok (.iadd, 1) := by decide +kernel
theorem dX6_gatherNeeds_90 : decode cX6_gatherNeeds 90 = .ok (.if_icmp .ge 38, 3) := by decide +kernel
theorem dX6_gatherNeeds_93 : decode cX6_gatherNeeds 93 = .ok (.aload_n 1, 1) := by decide +kernel
theorem dX6_gatherNeeds_94 : decode cX6_gatherNeeds 94 = .ok (.getfield 92, 3) := by decide +kernel
theorem dX6_gatherNeeds_97 : decode cX6_gatherNeeds 97 = .ok (.getfield 108, 3) := by decide +kernel
theorem dX6_gatherNeeds_100 : decode cX6_gatherNeeds 100 = .ok (.iload 4, 2) := by decide +kernel
theorem dX6_gatherNeeds_102 : decode cX6_gatherNeeds 102 = .ok (.iaload, 1) := by decide +kernel
theorem dX6_gatherNeeds_103 : decode cX6_gatherNeeds 103 = .ok (.iload_n 3, 1) := by decide +kernel
theorem dX6_gatherNeeds_104 : decode cX6_gatherNeeds 104 = .ok (.if_icmp .lt 24, 3) := by decide +kernel
theorem dX6_gatherNeeds_107 : decode cX6_gatherNeeds 107 = .ok (.aload_n 0, 1) := by decide +kernel
theorem dX6_gatherNeeds_108 : decode cX6_gatherNeeds 108 = .ok (.getfield 22, 3) := by decide +kernel
theorem dX6_gatherNeeds_111 : decode cX6_gatherNeeds 111 = .ok (.aload_n 0, 1) := by decide +kernel
theorem dX6_gatherNeeds_112 : decode cX6_gatherNeeds 112 = .ok (.getfield 51, 3) := by decide +kernel
theorem dX6_gatherNeeds_115 : decode cX6_gatherNeeds 115 = .ok (.iload 4, 2) := by decide +kernel
theorem dX6_gatherNeeds_117 : decode cX6_gatherNeeds 117 = .ok (.iastore, 1) := by decide +kernel
theorem dX6_gatherNeeds_118 : decode cX6_gatherNeeds 118 = .ok (.aload_n 0, 1) := by decide +kernel
theorem dX6_gatherNeeds_119 : decode cX6_gatherNeeds 119 = .ok (.dup, 1) := by decide +kernel
theorem dX6_gatherNeeds_120 : decode cX6_gatherNeeds 120 = .ok (.getfield 51, 3) := by decide +kernel
theorem dX6_gatherNeeds_123 : decode cX6_gatherNeeds 123 = .ok (.iconst 1, 1) := by decide +kernel
theorem dX6_gatherNeeds_124 : decode cX6_gatherNeeds 124 = .ok (.iadd, 1) := by decide +kernel
theorem dX6_gatherNeeds_125 : decode cX6_gatherNeeds 125 = .ok (.putfield 51, 3) := by decide +kernel
theorem dX6_gatherNeeds_128 : decode cX6_gatherNeeds 128 = .ok (.iinc 4 1, 3) := by decide +kernel
theorem dX6_gatherNeeds_131 : decode cX6_gatherNeeds 131 = .ok (.goto (-115), 3) := by decide +kernel
theorem dX6_gatherNeeds_134 : decode cX6_gatherNeeds 134 = .ok (.return_, 1) := by decide +kernel
theorem dX6_gatherServed_0 : decode cX6_gatherServed 0 = .ok (.aload_n 1, 1) := by decide +kernel
theorem dX6_gatherServed_1 : decode cX6_gatherServed 1 = .ok (.getfield 56, 3) := by decide +kernel
theorem dX6_gatherServed_4 : decode cX6_gatherServed 4 = .ok (.getfield 89, 3) := by decide +kernel
theorem dX6_gatherServed_7 : decode cX6_gatherServed 7 = .ok (.iload_n 2, 1) := by decide +kernel
theorem dX6_gatherServed_8 : decode cX6_gatherServed 8 = .ok (.iadd, 1) := by decide +kernel
theorem dX6_gatherServed_9 : decode cX6_gatherServed 9 = .ok (.istore_n 3, 1) := by decide +kernel
theorem dX6_gatherServed_10 : decode cX6_gatherServed 10 = .ok (.iconst 0, 1) := by decide +kernel
theorem dX6_gatherServed_11 : decode cX6_gatherServed 11 = .ok (.istore 4, 2) := by decide +kernel
theorem dX6_gatherServed_13 : decode cX6_gatherServed 13 = .ok (.iload 4, 2) := by decide +kernel
theorem dX6_gatherServed_15 : decode cX6_gatherServed 15 = .ok (.bipush 10, 2) := by decide +kernel
theorem dX6_gatherServed_17 : decode cX6_gatherServed 17 = .ok (.if_icmp .ge 25, 3) := by decide +kernel
theorem dX6_gatherServed_20 : decode cX6_gatherServed 20 = .ok (.aload_n 0, 1) := by decide +kernel
theorem dX6_gatherServed_21 : decode cX6_gatherServed 21 = .ok (.getfield 25, 3) := by decide +kernel
theorem dX6_gatherServed_24 : decode cX6_gatherServed 24 = .ok (.iload 4, 2) := by decide +kernel
theorem dX6_gatherServed_26 : decode cX6_gatherServed 26 = .ok (.iconst 0, 1) := by decide +kernel
theorem dX6_gatherServed_27 : decode cX6_gatherServed 27 = .ok (.iastore, 1) := by decide +kernel
theorem dX6_gatherServed_28 : decode cX6_gatherServed 28 = .ok (.aload_n 0, 1) := by decide +kernel
theorem dX6_gatherServed_29 : decode cX6_gatherServed 29 = .ok (.getfield 28, 3) := by decide +kernel
theorem dX6_gatherServed_32 : decode cX6_gatherServed 32 = .ok (.iload 4, 2) := by decide +kernel
theorem dX6_gatherServed_34 : decode cX6_gatherServed 34 = .ok (.iconst 0, 1) := by decide +kernel
theorem dX6_gatherServed_35 : decode cX6_gatherServed 35 = .ok (.iastore, 1) := by decide +kernel
theorem dX6_gatherServed_36 : decode cX6_gatherServed 36 = .ok (.iinc 4 1, 3) := by decide +kernel
theorem dX6_gatherServed_39 : decode cX6_gatherServed 39 = .ok (.goto (-26), 3) := by decide +kernel
theorem dX6_gatherServed_42 : decode cX6_gatherServed 42 = .ok (.iconst 0, 1) := by decide +kernel
theorem dX6_gatherServed_43 : decode cX6_gatherServed 43 = .ok (.istore 4, 2) := by decide +kernel
theorem dX6_gatherServed_45 : decode cX6_gatherServed 45 = .ok (.iload 4, 2) := by decide +kernel
theorem dX6_gatherServed_47 : decode cX6_gatherServed 47 = .ok (.aload_n 0, 1) := by decide +kernel
theorem dX6_gatherServed_48 : decode cX6_gatherServed 48 = .ok (.getfield 51, 3) := by decide +kernel
theorem dX6_gatherServed_51 : decode cX6_gatherServed 51 = .ok (.if_icmp .ge 112, 3) := by decide +kernel
theorem dX6_gatherServed_54 : decode cX6_gatherServed 54 = .ok (.aload_n 0, 1) := by decide +kernel
theorem dX6_gatherServed_55 : decode cX6_gatherServed 55 = .ok (.getfield 22, 3) := by decide +kernel
theorem dX6_gatherServed_58 : decode cX6_gatherServed 58 = .ok (.iload 4, 2) := by decide +kernel
theorem dX6_gatherServed_60 : decode cX6_gatherServed 60 = .ok (.iaload, 1) := by decide +kernel
theorem dX6_gatherServed_61 : decode cX6_gatherServed 61 = .ok (.istore 5, 2) := by decide +kernel
theorem dX6_gatherServed_63 : decode cX6_gatherServed 63 = .ok (.aload_n 1, 1) := by decide +kernel
theorem dX6_gatherServed_64 : decode cX6_gatherServed 64 = .ok (.getfield 92, 3) := by decide +kernel
theorem dX6_gatherServed_67 : decode cX6_gatherServed 67 = .ok (.getfield 127, 3) := by decide +kernel
theorem dX6_gatherServed_70 : decode cX6_gatherServed 70 = .ok (.iload 5, 2) := by decide +kernel
theorem dX6_gatherServed_72 : decode cX6_gatherServed 72 = .ok (.iaload, 1) := by decide +kernel
theorem dX6_gatherServed_73 : decode cX6_gatherServed 73 = .ok (.istore 6, 2) := by decide +kernel
theorem dX6_gatherServed_75 : decode cX6_gatherServed 75 = .ok (.iload_n 3, 1) := by decide +kernel
theorem dX6_gatherServed_76 : decode cX6_gatherServed 76 = .ok (.aload_n 1, 1) := by decide +kernel
theorem dX6_gatherServed_77 : decode cX6_gatherServed 77 = .ok (.getfield 92, 3) := by decide +kernel
theorem dX6_gatherServed_80 : decode cX6_gatherServed 80 = .ok (.getfield 105, 3) := by decide +kernel
theorem dX6_gatherServed_83 : decode cX6_gatherServed 83 = .ok (.iload 5, 2) := by decide +kernel
theorem dX6_gatherServed_85 : decode cX6_gatherServed 85 = .ok (.iaload, 1) := by decide +kernel
theorem dX6_gatherServed_86 : decode cX6_gatherServed 86 = .ok (.if_icmp .lt 71, 3) := by decide +kernel
theorem dX6_gatherServed_89 : decode cX6_gatherServed 89 = .ok (.iload_n 3, 1) := by decide +kernel
theorem dX6_gatherServed_90 : decode cX6_gatherServed 90 = .ok (.aload_n 1, 1) := by decide +kernel
theorem dX6_gatherServed_91 : decode cX6_gatherServed 91 = .ok (.getfield 92, 3) := by decide +kernel
theorem dX6_gatherServed_94 : decode cX6_gatherServed 94 = .ok (.getfield 108, 3) := by decide +kernel
theorem dX6_gatherServed_97 : decode cX6_gatherServed 97 = .ok (.iload 5, 2) := by decide +kernel
theorem dX6_gatherServed_99 : decode cX6_gatherServed 99 = .ok (.iaload, 1) := by decide +kernel
theorem dX6_gatherServed_100 : decode cX6_gatherServed 100 = .ok (.if_icmp .gt 57, 3) := by decide +kernel
theorem dX6_gatherServed_103 : decode cX6_gatherServed 103 = .ok (.iload 6, 2) := by decide +kernel
theorem dX6_gatherServed_105 : decode cX6_gatherServed 105 = .ok (.ifCond .lt 52, 3) := by decide +kernel
theorem dX6_gatherServed_108 : decode cX6_gatherServed 108 = .ok (.iload 6, 2) := by decide +kernel
theorem dX6_gatherServed_110 : decode cX6_gatherServed 110 = .ok (.bipush 10, 2) := by decide +kernel
theorem dX6_gatherServed_112 : decode cX6_gatherServed 112 = .ok (.if_icmp .ge 45, 3) := by decide +kernel
theorem dX6_gatherServed_115 : decode cX6_gatherServed 115 = .ok (.aload_n 0, 1) := by decide +kernel
theorem dX6_gatherServed_116 : decode cX6_gatherServed 116 = .ok (.getfield 28, 3) := by decide +kernel
theorem dX6_gatherServed_119 : decode cX6_gatherServed 119 = .ok (.iload 6, 2) := by decide +kernel
theorem dX6_gatherServed_121 : decode cX6_gatherServed 121 = .ok (.dup2, 1) := by decide +kernel
theorem dX6_gatherServed_122 : decode cX6_gatherServed 122 = .ok (.iaload, 1) := by decide +kernel
theorem dX6_gatherServed_123 : decode cX6_gatherServed 123 = .ok (.iconst 1, 1) := by decide +kernel
theorem dX6_gatherServed_124 : decode cX6_gatherServed 124 = .ok (.iload 4, 2) := by decide +kernel
theorem dX6_gatherServed_126 : decode cX6_gatherServed 126 = .ok (.ishl, 1) := by decide +kernel
theorem dX6_gatherServed_127 : decode cX6_gatherServed 127 = .ok (.ior, 1) := by decide +kernel
theorem dX6_gatherServed_128 : decode cX6_gatherServed 128 = .ok (.iastore, 1) := by decide +kernel
theorem dX6_gatherServed_129 : decode cX6_gatherServed 129 = .ok (.aload_n 1, 1) := by decide +kernel
theorem dX6_gatherServed_130 : decode cX6_gatherServed 130 = .ok (.getfield 92, 3) := by decide +kernel
theorem dX6_gatherServed_133 : decode cX6_gatherServed 133 = .ok (.getfield 130, 3) := by decide +kernel
theorem dX6_gatherServed_136 : decode cX6_gatherServed 136 = .ok (.iload 5, 2) := by decide +kernel
theorem dX6_gatherServed_138 : decode cX6_gatherServed 138 = .ok (.iaload, 1) := by decide +kernel
theorem dX6_gatherServed_139 : decode cX6_gatherServed 139 = .ok (.iconst 3, 1) := by decide +kernel
theorem dX6_gatherServed_140 : decode cX6_gatherServed 140 = .ok (.if_icmp .eq 17, 3) := by decide +kernel
theorem dX6_gatherServed_143 : decode cX6_gatherServed 143 = .ok (.aload_n 0, 1) := by decide +kernel
theorem dX6_gatherServed_144 : decode cX6_gatherServed 144 = .ok (.getfield 25, 3) := by decide +kernel
theorem dX6_gatherServed_147 : decode cX6_gatherServed 147 = .ok (.iload 6, 2) := by decide +kernel
theorem dX6_gatherServed_149 : decode cX6_gatherServed 149 = .ok (.dup2, 1) := by decide +kernel
theorem dX6_gatherServed_150 : decode cX6_gatherServed 150 = .ok (.iaload, 1) := by decide +kernel
theorem dX6_gatherServed_151 : decode cX6_gatherServed 151 = .ok (.iconst 1, 1) := by decide +kernel
theorem dX6_gatherServed_152 : decode cX6_gatherServed 152 = .ok (.iload 4, 2) := by decide +kernel
theorem dX6_gatherServed_154 : decode cX6_gatherServed 154 = .ok (.ishl, 1) := by decide +kernel
theorem dX6_gatherServed_155 : decode cX6_gatherServed 155 = .ok (.ior, 1) := by decide +kernel
theorem dX6_gatherServed_156 : decode cX6_gatherServed 156 = .ok (.iastore, 1) := by decide +kernel
theorem dX6_gatherServed_157 : decode cX6_gatherServed 157 = .ok (.iinc 4 1, 3) := by decide +kernel
theorem dX6_gatherServed_160 : decode cX6_gatherServed 160 = .ok (.goto (-115), 3) := by decide +kernel
theorem dX6_gatherServed_163 : decode cX6_gatherServed 163 = .ok (.return_, 1) := by decide +kernel
theorem dX6_goOn_0 : decode cX6_goOn 0 = .ok (.iconst 0, 1) := by decide +kernel
theorem dX6_goOn_1 : decode cX6_goOn 1 = .ok (.istore 7, 2) := by decide +kernel
theorem dX6_goOn_3 : decode cX6_goOn 3 = .ok (.iload 7, 2) := by decide +kernel
theorem dX6_goOn_5 : decode cX6_goOn 5 = .ok (.iload_n 1, 1) := by decide +kernel
theorem dX6_goOn_6 : decode cX6_goOn 6 = .ok (.if_icmp .ge 151, 3) := by decide +kernel
theorem dX6_goOn_9 : decode cX6_goOn 9 = .ok (.aload_n 0, 1) := by decide +kernel
theorem dX6_goOn_10 : decode cX6_goOn 10 = .ok (.getfield 18, 3) := by decide +kernel
theorem dX6_goOn_13 : decode cX6_goOn 13 = .ok (.iload_n 3, 1) := by decide +kernel
theorem dX6_goOn_14 : decode cX6_goOn 14 = .ok (.bipush 10, 2) := by decide +kernel
theorem dX6_goOn_16 : decode cX6_goOn 16 = .ok (.imul, 1) := by decide +kernel
theorem dX6_goOn_17 : decode cX6_goOn 17 = .ok (.iload 7, 2) := by decide +kernel
theorem dX6_goOn_19 : decode cX6_goOn 19 = .ok (.iadd, 1) := by decide +kernel
theorem dX6_goOn_20 : decode cX6_goOn 20 = .ok (.iaload, 1) := by decide +kernel
theorem dX6_goOn_21 : decode cX6_goOn 21 = .ok (.istore 8, 2) := by decide +kernel
theorem dX6_goOn_23 : decode cX6_goOn 23 = .ok (.iload 8, 2) := by decide +kernel
theorem dX6_goOn_25 : decode cX6_goOn 25 = .ok (.iconst (-1), 1) := by decide +kernel
theorem dX6_goOn_26 : decode cX6_goOn 26 = .ok (.if_icmp .eq 125, 3) := by decide +kernel
theorem dX6_goOn_29 : decode cX6_goOn 29 = .ok (.aload 4, 2) := by decide +kernel
theorem dX6_goOn_31 : decode cX6_goOn 31 = .ok (.ifnull 13, 3) := by decide +kernel
theorem dX6_goOn_34 : decode cX6_goOn 34 = .ok (.aload 4, 2) := by decide +kernel
theorem dX6_goOn_36 : decode cX6_goOn 36 = .ok (.iload 7, 2) := by decide +kernel
theorem dX6_goOn_38 : decode cX6_goOn 38 = .ok (.invokevirtual 141, 3) := by decide +kernel
theorem dX6_goOn_41 : decode cX6_goOn 41 = .ok (.goto 14, 3) := by decide +kernel
theorem dX6_goOn_44 : decode cX6_goOn 44 = .ok (.iload_n 3, 1) := by decide +kernel
theorem dX6_goOn_45 : decode cX6_goOn 45 = .ok (.iload 7, 2) := by decide +kernel
theorem dX6_goOn_47 : decode cX6_goOn 47 = .ok (.if_icmp .ne 7, 3) := by decide +kernel
theorem dX6_goOn_50 : decode cX6_goOn 50 = .ok (.iconst 1, 1) := by decide +kernel
theorem dX6_goOn_51 : decode cX6_goOn 51 = .ok (.goto 4, 3) := by decide +kernel
theorem dX6_goOn_54 : decode cX6_goOn 54 = .ok (.iconst 0, 1) := by decide +kernel
theorem dX6_goOn_55 : decode cX6_goOn 55 = .ok (.istore 9, 2) := by decide +kernel
theorem dX6_goOn_57 : decode cX6_goOn 57 = .ok (.iload_n 2, 1) := by decide +kernel
theorem dX6_goOn_58 : decode cX6_goOn 58 = .ok (.iload 9, 2) := by decide +kernel
theorem dX6_goOn_60 : decode cX6_goOn 60 = .ok (.ifCond .eq 13, 3) := by decide +kernel
theorem dX6_goOn_63 : decode cX6_goOn 63 = .ok (.aload_n 0, 1) := by decide +kernel
theorem dX6_goOn_64 : decode cX6_goOn 64 = .ok (.getfield 28, 3) := by decide +kernel
theorem dX6_goOn_67 : decode cX6_goOn 67 = .ok (.iload 7, 2) := by decide +kernel
theorem dX6_goOn_69 : decode cX6_goOn 69 = .ok (.iaload, 1) := by decide +kernel
theorem dX6_goOn_70 : decode cX6_goOn 70 = .ok (.goto 10, 3) := by decide +kernel
theorem dX6_goOn_73 : decode cX6_goOn 73 = .ok (.aload_n 0, 1) := by decide +kernel
theorem dX6_goOn_74 : decode cX6_goOn 74 = .ok (.getfield 25, 3) := by decide +kernel
theorem dX6_goOn_77 : decode cX6_goOn 77 = .ok (.iload 7, 2) := by decide +kernel
theorem dX6_goOn_79 : decode cX6_goOn 79 = .ok (.iaload, 1) := by decide +kernel
theorem dX6_goOn_80 : decode cX6_goOn 80 = .ok (.ior, 1) := by decide +kernel
theorem dX6_goOn_81 : decode cX6_goOn 81 = .ok (.istore 10, 2) := by decide +kernel
theorem dX6_goOn_83 : decode cX6_goOn 83 = .ok (.iload 10, 2) := by decide +kernel
theorem dX6_goOn_85 : decode cX6_goOn 85 = .ok (.iload_n 1, 1) := by decide +kernel
theorem dX6_goOn_86 : decode cX6_goOn 86 = .ok (.imul, 1) := by decide +kernel
theorem dX6_goOn_87 : decode cX6_goOn 87 = .ok (.iload 7, 2) := by decide +kernel
theorem dX6_goOn_89 : decode cX6_goOn 89 = .ok (.iadd, 1) := by decide +kernel
theorem dX6_goOn_90 : decode cX6_goOn 90 = .ok (.istore 11, 2) := by decide +kernel
theorem dX6_goOn_92 : decode cX6_goOn 92 = .ok (.aload_n 0, 1) := by decide +kernel
theorem dX6_goOn_93 : decode cX6_goOn 93 = .ok (.getfield 15, 3) := by decide +kernel
theorem dX6_goOn_96 : decode cX6_goOn 96 = .ok (.iload_n 3, 1) := by decide +kernel
theorem dX6_goOn_97 : decode cX6_goOn 97 = .ok (.laload, 1) := by decide +kernel
theorem dX6_goOn_98 : decode cX6_goOn 98 = .ok (.iload 8, 2) := by decide +kernel
theorem dX6_goOn_100 : decode cX6_goOn 100 = .ok (.i2l, 1) := by decide +kernel
theorem dX6_goOn_101 : decode cX6_goOn 101 = .ok (.ldc2_w 144, 3) := by decide +kernel
theorem dX6_goOn_104 : decode cX6_goOn 104 = .ok (.lmul, 1) := by decide +kernel
theorem dX6_goOn_105 : decode cX6_goOn 105 = .ok (.ladd, 1) := by decide +kernel
theorem dX6_goOn_106 : decode cX6_goOn 106 = .ok (.iload 7, 2) := by decide +kernel
theorem dX6_goOn_108 : decode cX6_goOn 108 = .ok (.i2l, 1) := by decide +kernel
theorem dX6_goOn_109 : decode cX6_goOn 109 = .ok (.lload 5, 2) := by decide +kernel
theorem dX6_goOn_111 : decode cX6_goOn 111 = .ok (.lmul, 1) := by decide +kernel
theorem dX6_goOn_112 : decode cX6_goOn 112 = .ok (.ladd, 1) := by decide +kernel
theorem dX6_goOn_113 : decode cX6_goOn 113 = .ok (.lstore 12, 2) := by decide +kernel
theorem dX6_goOn_115 : decode cX6_goOn 115 = .ok (.aload_n 0, 1) := by decide +kernel
theorem dX6_goOn_116 : decode cX6_goOn 116 = .ok (.getfield 9, 3) := by decide +kernel
theorem dX6_goOn_119 : decode cX6_goOn 119 = .ok (.iload 11, 2) := by decide +kernel
theorem dX6_goOn_121 : decode cX6_goOn 121 = .ok (.laload, 1) := by decide +kernel
theorem dX6_goOn_122 : decode cX6_goOn 122 = .ok (.ldc2_w 54, 3) := by decide +kernel
theorem dX6_goOn_125 : decode cX6_goOn 125 = .ok (.lcmp, 1) := by decide +kernel
theorem dX6_goOn_126 : decode cX6_goOn 126 = .ok (.ifCond .eq 16, 3) := by decide +kernel
theorem dX6_goOn_129 : decode cX6_goOn 129 = .ok (.aload_n 0, 1) := by decide +kernel
theorem dX6_goOn_130 : decode cX6_goOn 130 = .ok (.getfield 9, 3) := by decide +kernel
theorem dX6_goOn_133 : decode cX6_goOn 133 = .ok (.iload 11, 2) := by decide +kernel
theorem dX6_goOn_135 : decode cX6_goOn 135 = .ok (.laload, 1) := by decide +kernel
theorem dX6_goOn_136 : decode cX6_goOn 136 = .ok (.lload 12, 2) := by decide +kernel
theorem dX6_goOn_138 : decode cX6_goOn 138 = .ok (.lcmp, 1) := by decide +kernel
theorem dX6_goOn_139 : decode cX6_goOn 139 = .ok (.ifCond .le 12, 3) := by decide +kernel
theorem dX6_goOn_142 : decode cX6_goOn 142 = .ok (.aload_n 0, 1) := by decide +kernel
theorem dX6_goOn_143 : decode cX6_goOn 143 = .ok (.getfield 9, 3) := by decide +kernel
theorem dX6_goOn_146 : decode cX6_goOn 146 = .ok (.iload 11, 2) := by decide +kernel
theorem dX6_goOn_148 : decode cX6_goOn 148 = .ok (.lload 12, 2) := by decide +kernel
theorem dX6_goOn_150 : decode cX6_goOn 150 = .ok (.lastore, 1) := by decide +kernel
theorem dX6_goOn_151 : decode cX6_goOn 151 = .ok (.iinc 7 1, 3) := by decide +kernel
theorem dX6_goOn_154 : decode cX6_goOn 154 = .ok (.goto (-151), 3) := by decide +kernel
theorem dX6_goOn_157 : decode cX6_goOn 157 = .ok (.return_, 1) := by decide +kernel
theorem dX6_lift_0 : decode cX6_lift 0 = .ok (.iconst 0, 1) := by decide +kernel
theorem dX6_lift_1 : decode cX6_lift 1 = .ok (.istore_n 3, 1) := by decide +kernel
theorem dX6_lift_2 : decode cX6_lift 2 = .ok (.iload_n 2, 1) := by decide +kernel
theorem dX6_lift_3 : decode cX6_lift 3 = .ok (.iload_n 1, 1) := by decide +kernel
theorem dX6_lift_4 : decode cX6_lift 4 = .ok (.imul, 1) := by decide +kernel
theorem dX6_lift_5 : decode cX6_lift 5 = .ok (.istore 4, 2) := by decide +kernel
theorem dX6_lift_7 : decode cX6_lift 7 = .ok (.iconst 0, 1) := by decide +kernel
theorem dX6_lift_8 : decode cX6_lift 8 = .ok (.istore 5, 2) := by decide +kernel
theorem dX6_lift_10 : decode cX6_lift 10 = .ok (.iload 5, 2) := by decide +kernel
theorem dX6_lift_12 : decode cX6_lift 12 = .ok (.iload_n 1, 1) := by decide +kernel
theorem dX6_lift_13 : decode cX6_lift 13 = .ok (.if_icmp .ge 63, 3) := by decide +kernel
theorem dX6_lift_16 : decode cX6_lift 16 = .ok (.aload_n 0, 1) := by decide +kernel
theorem dX6_lift_17 : decode cX6_lift 17 = .ok (.getfield 15, 3) := by decide +kernel
theorem dX6_lift_20 : decode cX6_lift 20 = .ok (.iload 5, 2) := by decide +kernel
theorem dX6_lift_22 : decode cX6_lift 22 = .ok (.aload_n 0, 1) := by decide +kernel
theorem dX6_lift_23 : decode cX6_lift 23 = .ok (.getfield 9, 3) := by decide +kernel
theorem dX6_lift_26 : decode cX6_lift 26 = .ok (.iload 4, 2) := by decide +kernel
theorem dX6_lift_28 : decode cX6_lift 28 = .ok (.iload 5, 2) := by decide +kernel
theorem dX6_lift_30 : decode cX6_lift 30 = .ok (.iadd, 1) := by decide +kernel
theorem dX6_lift_31 : decode cX6_lift 31 = .ok (.laload, 1) := by decide +kernel
theorem dX6_lift_32 : decode cX6_lift 32 = .ok (.lastore, 1) := by decide +kernel
theorem dX6_lift_33 : decode cX6_lift 33 = .ok (.aload_n 0, 1) := by decide +kernel
theorem dX6_lift_34 : decode cX6_lift 34 = .ok (.getfield 9, 3) := by decide +kernel
theorem dX6_lift_37 : decode cX6_lift 37 = .ok (.iload 4, 2) := by decide +kernel
theorem dX6_lift_39 : decode cX6_lift 39 = .ok (.iload 5, 2) := by decide +kernel
theorem dX6_lift_41 : decode cX6_lift 41 = .ok (.iadd, 1) := by decide +kernel
theorem dX6_lift_42 : decode cX6_lift 42 = .ok (.ldc2_w 54, 3) := by decide +kernel
theorem dX6_lift_45 : decode cX6_lift 45 = .ok (.lastore, 1) := by decide +kernel
theorem dX6_lift_46 : decode cX6_lift 46 = .ok (.iload_n 3, 1) := by decide +kernel
theorem dX6_lift_47 : decode cX6_lift 47 = .ok (.ifCond .ne 17, 3) := by decide +kernel
theorem dX6_lift_50 : decode cX6_lift 50 = .ok (.aload_n 0, 1) := by decide +kernel
theorem dX6_lift_51 : decode cX6_lift 51 = .ok (.getfield 15, 3) := by decide +kernel
theorem dX6_lift_54 : decode cX6_lift 54 = .ok (.iload 5, 2) := by decide +kernel
theorem dX6_lift_56 : decode cX6_lift 56 = .ok (.laload, 1) := by decide +kernel
theorem dX6_lift_57 : decode cX6_lift 57 = .ok (.ldc2_w 54, 3) := by decide +kernel
theorem dX6_lift_60 : decode cX6_lift 60 = .ok (.lcmp, 1) := by decide +kernel
theorem dX6_lift_61 : decode cX6_lift 61 = .ok (.ifCond .eq 7, 3) := by decide +kernel
theorem dX6_lift_64 : decode cX6_lift 64 = .ok (.iconst 1, 1) := by decide +kernel
theorem dX6_lift_65 : decode cX6_lift 65 = .ok (.goto 4, 3) := by decide +kernel
theorem dX6_lift_68 : decode cX6_lift 68 = .ok (.iconst 0, 1) := by decide +kernel
theorem dX6_lift_69 : decode cX6_lift 69 = .ok (.istore_n 3, 1) := by decide +kernel
theorem dX6_lift_70 : decode cX6_lift 70 = .ok (.iinc 5 1, 3) := by decide +kernel
theorem dX6_lift_73 : decode cX6_lift 73 = .ok (.goto (-63), 3) := by decide +kernel
theorem dX6_lift_76 : decode cX6_lift 76 = .ok (.iload_n 3, 1) := by decide +kernel
theorem dX6_lift_77 : decode cX6_lift 77 = .ok (.ireturn, 1) := by decide +kernel
theorem dX6_power_0 : decode cX6_power 0 = .ok (.lconst 1, 1) := by decide +kernel
theorem dX6_power_1 : decode cX6_power 1 = .ok (.lstore_n 1, 1) := by decide +kernel
theorem dX6_power_2 : decode cX6_power 2 = .ok (.iconst 0, 1) := by decide +kernel
theorem dX6_power_3 : decode cX6_power 3 = .ok (.istore_n 3, 1) := by decide +kernel
theorem dX6_power_4 : decode cX6_power 4 = .ok (.iload_n 3, 1) := by decide +kernel
theorem dX6_power_5 : decode cX6_power 5 = .ok (.iload_n 0, 1) := by decide +kernel
theorem dX6_power_6 : decode cX6_power 6 = .ok (.if_icmp .ge 15, 3) := by decide +kernel
theorem dX6_power_9 : decode cX6_power 9 = .ok (.lload_n 1, 1) := by decide +kernel
theorem dX6_power_10 : decode cX6_power 10 = .ok (.ldc2_w 80, 3) := by decide +kernel
theorem dX6_power_13 : decode cX6_power 13 = .ok (.lmul, 1) := by decide +kernel
theorem dX6_power_14 : decode cX6_power 14 = .ok (.lstore_n 1, 1) := by decide +kernel
theorem dX6_power_15 : decode cX6_power 15 = .ok (.iinc 3 1, 3) := by decide +kernel
theorem dX6_power_18 : decode cX6_power 18 = .ok (.goto (-14), 3) := by decide +kernel
theorem dX6_power_21 : decode cX6_power 21 = .ok (.lload_n 1, 1) := by decide +kernel
theorem dX6_power_22 : decode cX6_power 22 = .ok (.lreturn, 1) := by decide +kernel
theorem dX6_search_0 : decode cX6_search 0 = .ok (.aload_n 0, 1) := by decide +kernel
theorem dX6_search_1 : decode cX6_search 1 = .ok (.aload_n 1, 1) := by decide +kernel
theorem dX6_search_2 : decode cX6_search 2 = .ok (.iload_n 2, 1) := by decide +kernel
theorem dX6_search_3 : decode cX6_search 3 = .ok (.invokevirtual 31, 3) := by decide +kernel
theorem dX6_search_6 : decode cX6_search 6 = .ok (.aload_n 0, 1) := by decide +kernel
theorem dX6_search_7 : decode cX6_search 7 = .ok (.aload_n 1, 1) := by decide +kernel
theorem dX6_search_8 : decode cX6_search 8 = .ok (.invokevirtual 35, 3) := by decide +kernel
theorem dX6_search_11 : decode cX6_search 11 = .ok (.aload_n 1, 1) := by decide +kernel
theorem dX6_search_12 : decode cX6_search 12 = .ok (.getfield 39, 3) := by decide +kernel
theorem dX6_search_15 : decode cX6_search 15 = .ok (.getfield 45, 3) := by decide +kernel
theorem dX6_search_18 : decode cX6_search 18 = .ok (.istore_n 3, 1) := by decide +kernel
theorem dX6_search_19 : decode cX6_search 19 = .ok (.iconst 1, 1) := by decide +kernel
theorem dX6_search_20 : decode cX6_search 20 = .ok (.aload_n 0, 1) := by decide +kernel
theorem dX6_search_21 : decode cX6_search 21 = .ok (.getfield 51, 3) := by decide +kernel
theorem dX6_search_24 : decode cX6_search 24 = .ok (.ishl, 1) := by decide +kernel
theorem dX6_search_25 : decode cX6_search 25 = .ok (.istore 4, 2) := by decide +kernel
theorem dX6_search_27 : decode cX6_search 27 = .ok (.iconst 0, 1) := by decide +kernel
theorem dX6_search_28 : decode cX6_search 28 = .ok (.istore 5, 2) := by decide +kernel
theorem dX6_search_30 : decode cX6_search 30 = .ok (.iload 5, 2) := by decide +kernel
theorem dX6_search_32 : decode cX6_search 32 = .ok (.iload_n 3, 1) := by decide +kernel
theorem dX6_search_33 : decode cX6_search 33 = .ok (.iload 4, 2) := by decide +kernel
theorem dX6_search_35 : decode cX6_search 35 = .ok (.imul, 1) := by decide +kernel
theorem dX6_search_36 : decode cX6_search 36 = .ok (.if_icmp .ge 29, 3) := by decide +kernel
theorem dX6_search_39 : decode cX6_search 39 = .ok (.iload 5, 2) := by decide +kernel
theorem dX6_search_41 : decode cX6_search 41 = .ok (.aload_n 0, 1) := by decide +kernel
theorem dX6_search_42 : decode cX6_search 42 = .ok (.getfield 9, 3) := by decide +kernel
theorem dX6_search_45 : decode cX6_search 45 = .ok (.arraylength, 1) := by decide +kernel
theorem dX6_search_46 : decode cX6_search 46 = .ok (.if_icmp .ge 19, 3) := by decide +kernel
theorem dX6_search_49 : decode cX6_search 49 = .ok (.aload_n 0, 1) := by decide +kernel
theorem dX6_search_50 : decode cX6_search 50 = .ok (.getfield 9, 3) := by decide +kernel
theorem dX6_search_53 : decode cX6_search 53 = .ok (.iload 5, 2) := by decide +kernel
theorem dX6_search_55 : decode cX6_search 55 = .ok (.ldc2_w 54, 3) := by decide +kernel
theorem dX6_search_58 : decode cX6_search 58 = .ok (.lastore, 1) := by decide +kernel
theorem dX6_search_59 : decode cX6_search 59 = .ok (.iinc 5 1, 3) := by decide +kernel
theorem dX6_search_62 : decode cX6_search 62 = .ok (.goto (-32), 3) := by decide +kernel
theorem dX6_search_65 : decode cX6_search 65 = .ok (.aload_n 1, 1) := by decide +kernel
theorem dX6_search_66 : decode cX6_search 66 = .ok (.getfield 39, 3) := by decide +kernel
theorem dX6_search_69 : decode cX6_search 69 = .ok (.aload_n 1, 1) := by decide +kernel
theorem dX6_search_70 : decode cX6_search 70 = .ok (.getfield 56, 3) := by decide +kernel
theorem dX6_search_73 : decode cX6_search 73 = .ok (.getfield 60, 3) := by decide +kernel
theorem dX6_search_76 : decode cX6_search 76 = .ok (.invokevirtual 65, 3) := by decide +kernel
theorem dX6_search_79 : decode cX6_search 79 = .ok (.ifCond .eq 16, 3) := by decide +kernel
theorem dX6_search_82 : decode cX6_search 82 = .ok (.aload_n 0, 1) := by decide +kernel
theorem dX6_search_83 : decode cX6_search 83 = .ok (.getfield 9, 3) := by decide +kernel
theorem dX6_search_86 : decode cX6_search 86 = .ok (.aload_n 1, 1) := by decide +kernel
theorem dX6_search_87 : decode cX6_search 87 = .ok (.getfield 56, 3) := by decide +kernel
theorem dX6_search_90 : decode cX6_search 90 = .ok (.getfield 60, 3) := by decide +kernel
theorem dX6_search_93 : decode cX6_search 93 = .ok (.lconst 0, 1) := by decide +kernel
theorem dX6_search_94 : decode cX6_search 94 = .ok (.lastore, 1) := by decide +kernel
theorem dX6_search_95 : decode cX6_search 95 = .ok (.iload_n 2, 1) := by decide +kernel
theorem dX6_search_96 : decode cX6_search 96 = .ok (.iconst 1, 1) := by decide +kernel
theorem dX6_search_97 : decode cX6_search 97 = .ok (.isub, 1) := by decide +kernel
theorem dX6_search_98 : decode cX6_search 98 = .ok (.invokestatic 69, 3) := by decide +kernel
theorem dX6_search_101 : decode cX6_search 101 = .ok (.lstore 5, 2) := by decide +kernel
theorem dX6_search_103 : decode cX6_search 103 = .ok (.iconst 0, 1) := by decide +kernel
theorem dX6_search_104 : decode cX6_search 104 = .ok (.istore 7, 2) := by decide +kernel
theorem dX6_search_106 : decode cX6_search 106 = .ok (.iload 7, 2) := by decide +kernel
theorem dX6_search_108 : decode cX6_search 108 = .ok (.iload_n 2, 1) := by decide +kernel
theorem dX6_search_109 : decode cX6_search 109 = .ok (.if_icmp .ge 46, 3) := by decide +kernel
theorem dX6_search_112 : decode cX6_search 112 = .ok (.aload_n 0, 1) := by decide +kernel
theorem dX6_search_113 : decode cX6_search 113 = .ok (.aload_n 1, 1) := by decide +kernel
theorem dX6_search_114 : decode cX6_search 114 = .ok (.iload 7, 2) := by decide +kernel
theorem dX6_search_116 : decode cX6_search 116 = .ok (.invokevirtual 73, 3) := by decide +kernel
theorem dX6_search_119 : decode cX6_search 119 = .ok (.aload_n 0, 1) := by decide +kernel
theorem dX6_search_120 : decode cX6_search 120 = .ok (.iload_n 3, 1) := by decide +kernel
theorem dX6_search_121 : decode cX6_search 121 = .ok (.iload 4, 2) := by decide +kernel
theorem dX6_search_123 : decode cX6_search 123 = .ok (.iload 7, 2) := by decide +kernel
theorem dX6_search_125 : decode cX6_search 125 = .ok (.ifCond .ne 10, 3) := by decide +kernel
theorem dX6_search_128 : decode cX6_search 128 = .ok (.aload_n 1, 1) := by decide +kernel
theorem dX6_search_129 : decode cX6_search 129 = .ok (.getfield 56, 3) := by decide +kernel
theorem dX6_search_132 : decode cX6_search 132 = .ok (.goto 4, 3) := by decide +kernel
theorem dX6_search_135 : decode cX6_search 135 = .ok (.aconst_null, 1) := by decide +kernel
theorem dX6_search_136 : decode cX6_search 136 = .ok (.lload 5, 2) := by decide +kernel
theorem dX6_search_138 : decode cX6_search 138 = .ok (.invokevirtual 76, 3) := by decide +kernel
theorem dX6_search_141 : decode cX6_search 141 = .ok (.lload 5, 2) := by decide +kernel
theorem dX6_search_143 : decode cX6_search 143 = .ok (.ldc2_w 80, 3) := by decide +kernel
theorem dX6_search_146 : decode cX6_search 146 = .ok (.ldiv, 1) := by decide +kernel
theorem dX6_search_147 : decode cX6_search 147 = .ok (.lstore 5, 2) := by decide +kernel
theorem dX6_search_149 : decode cX6_search 149 = .ok (.iinc 7 1, 3) := by decide +kernel
theorem dX6_search_152 : decode cX6_search 152 = .ok (.goto (-46), 3) := by decide +kernel
theorem dX6_search_155 : decode cX6_search 155 = .ok (.aload_n 0, 1) := by decide +kernel
theorem dX6_search_156 : decode cX6_search 156 = .ok (.aload_n 1, 1) := by decide +kernel
theorem dX6_search_157 : decode cX6_search 157 = .ok (.iload_n 3, 1) := by decide +kernel
theorem dX6_search_158 : decode cX6_search 158 = .ok (.iload 4, 2) := by decide +kernel
theorem dX6_search_160 : decode cX6_search 160 = .ok (.invokevirtual 82, 3) := by decide +kernel
theorem dX6_search_163 : decode cX6_search 163 = .ok (.aload_n 0, 1) := by decide +kernel
theorem dX6_search_164 : decode cX6_search 164 = .ok (.iload_n 2, 1) := by decide +kernel
theorem dX6_search_165 : decode cX6_search 165 = .ok (.putfield 86, 3) := by decide +kernel
theorem dX6_search_168 : decode cX6_search 168 = .ok (.return_, 1) := by decide +kernel
theorem dX6_spreadNight_0 : decode cX6_spreadNight 0 = .ok (.iload_n 2, 1) := by decide +kernel
theorem dX6_spreadNight_1 : decode cX6_spreadNight 1 = .ok (.iconst 1, 1) := by decide +kernel
theorem dX6_spreadNight_2 : decode cX6_spreadNight 2 = .ok (.isub, 1) := by decide +kernel
theorem dX6_spreadNight_3 : decode cX6_spreadNight 3 = .ok (.istore 6, 2) := by decide +kernel
theorem dX6_spreadNight_5 : decode cX6_spreadNight 5 = .ok (.iload 6, 2) := by decide +kernel
theorem dX6_spreadNight_7 : decode cX6_spreadNight 7 = .ok (.ifCond .lt 60, 3) := by decide +kernel
theorem dX6_spreadNight_10 : decode cX6_spreadNight 10 = .ok (.aload_n 0, 1) := by decide +kernel
theorem dX6_spreadNight_11 : decode cX6_spreadNight 11 = .ok (.iload_n 1, 1) := by decide +kernel
theorem dX6_spreadNight_12 : decode cX6_spreadNight 12 = .ok (.iload 6, 2) := by decide +kernel
theorem dX6_spreadNight_14 : decode cX6_spreadNight 14 = .ok (.invokevirtual 133, 3) := by decide +kernel
theorem dX6_spreadNight_17 : decode cX6_spreadNight 17 = .ok (.ifCond .eq 44, 3) := by decide +kernel
theorem dX6_spreadNight_20 : decode cX6_spreadNight 20 = .ok (.iconst 0, 1) := by decide +kernel
theorem dX6_spreadNight_21 : decode cX6_spreadNight 21 = .ok (.istore 7, 2) := by decide +kernel
theorem dX6_spreadNight_23 : decode cX6_spreadNight 23 = .ok (.iload 7, 2) := by decide +kernel
theorem dX6_spreadNight_25 : decode cX6_spreadNight 25 = .ok (.iload_n 1, 1) := by decide +kernel
theorem dX6_spreadNight_26 : decode cX6_spreadNight 26 = .ok (.if_icmp .ge 35, 3) := by decide +kernel
theorem dX6_spreadNight_29 : decode cX6_spreadNight 29 = .ok (.aload_n 0, 1) := by decide +kernel
theorem dX6_spreadNight_30 : decode cX6_spreadNight 30 = .ok (.getfield 15, 3) := by decide +kernel
theorem dX6_spreadNight_33 : decode cX6_spreadNight 33 = .ok (.iload 7, 2) := by decide +kernel
theorem dX6_spreadNight_35 : decode cX6_spreadNight 35 = .ok (.laload, 1) := by decide +kernel
theorem dX6_spreadNight_36 : decode cX6_spreadNight 36 = .ok (.ldc2_w 54, 3) := by decide +kernel
theorem dX6_spreadNight_39 : decode cX6_spreadNight 39 = .ok (.lcmp, 1) := by decide +kernel
theorem dX6_spreadNight_40 : decode cX6_spreadNight 40 = .ok (.ifCond .eq 15, 3) := by decide +kernel
theorem dX6_spreadNight_43 : decode cX6_spreadNight 43 = .ok (.aload_n 0, 1) := by decide +kernel
theorem dX6_spreadNight_44 : decode cX6_spreadNight 44 = .ok (.iload_n 1, 1) := by decide +kernel
theorem dX6_spreadNight_45 : decode cX6_spreadNight 45 = .ok (.iload 6, 2) := by decide +kernel
theorem dX6_spreadNight_47 : decode cX6_spreadNight 47 = .ok (.iload 7, 2) := by decide +kernel
theorem dX6_spreadNight_49 : decode cX6_spreadNight 49 = .ok (.aload_n 3, 1) := by decide +kernel
theorem dX6_spreadNight_50 : decode cX6_spreadNight 50 = .ok (.lload 4, 2) := by decide +kernel
theorem dX6_spreadNight_52 : decode cX6_spreadNight 52 = .ok (.invokevirtual 137, 3) := by decide +kernel
theorem dX6_spreadNight_55 : decode cX6_spreadNight 55 = .ok (.iinc 7 1, 3) := by decide +kernel
theorem dX6_spreadNight_58 : decode cX6_spreadNight 58 = .ok (.goto (-35), 3) := by decide +kernel
theorem dX6_spreadNight_61 : decode cX6_spreadNight 61 = .ok (.iinc 6 (-1), 3) := by decide +kernel
theorem dX6_spreadNight_64 : decode cX6_spreadNight 64 = .ok (.goto (-59), 3) := by decide +kernel
theorem dX6_spreadNight_67 : decode cX6_spreadNight 67 = .ok (.return_, 1) := by decide +kernel
theorem dX6_stop_0 : decode cX6_stop 0 = .ok (.aload_n 0, 1) := by decide +kernel
theorem dX6_stop_1 : decode cX6_stop 1 = .ok (.getfield 149, 3) := by decide +kernel
theorem dX6_stop_4 : decode cX6_stop 4 = .ok (.aload_n 0, 1) := by decide +kernel
theorem dX6_stop_5 : decode cX6_stop 5 = .ok (.getfield 86, 3) := by decide +kernel
theorem dX6_stop_8 : decode cX6_stop 8 = .ok (.iconst 1, 1) := by decide +kernel
theorem dX6_stop_9 : decode cX6_stop 9 = .ok (.isub, 1) := by decide +kernel
theorem dX6_stop_10 : decode cX6_stop 10 = .ok (.iload_n 1, 1) := by decide +kernel
theorem dX6_stop_11 : decode cX6_stop 11 = .ok (.isub, 1) := by decide +kernel
theorem dX6_stop_12 : decode cX6_stop 12 = .ok (.invokestatic 69, 3) := by decide +kernel
theorem dX6_stop_15 : decode cX6_stop 15 = .ok (.ldiv, 1) := by decide +kernel
theorem dX6_stop_16 : decode cX6_stop 16 = .ok (.ldc2_w 80, 3) := by decide +kernel
theorem dX6_stop_19 : decode cX6_stop 19 = .ok (.lrem, 1) := by decide +kernel
theorem dX6_stop_20 : decode cX6_stop 20 = .ok (.l2i, 1) := by decide +kernel
theorem dX6_stop_21 : decode cX6_stop 21 = .ok (.ireturn, 1) := by decide +kernel
theorem dX6_way_0 : decode cX6_way 0 = .ok (.aload_n 0, 1) := by decide +kernel
theorem dX6_way_1 : decode cX6_way 1 = .ok (.getfield 149, 3) := by decide +kernel
theorem dX6_way_4 : decode cX6_way 4 = .ok (.ldc2_w 144, 3) := by decide +kernel
theorem dX6_way_7 : decode cX6_way 7 = .ok (.ldiv, 1) := by decide +kernel
theorem dX6_way_8 : decode cX6_way 8 = .ok (.l2i, 1) := by decide +kernel
theorem dX6_way_9 : decode cX6_way 9 = .ok (.ireturn, 1) := by decide +kernel
theorem dX6_worthOf_0 : decode cX6_worthOf 0 = .ok (.iconst 0, 1) := by decide +kernel
theorem dX6_worthOf_1 : decode cX6_worthOf 1 = .ok (.istore_n 3, 1) := by decide +kernel
theorem dX6_worthOf_2 : decode cX6_worthOf 2 = .ok (.iconst 0, 1) := by decide +kernel
theorem dX6_worthOf_3 : decode cX6_worthOf 3 = .ok (.istore 4, 2) := by decide +kernel
theorem dX6_worthOf_5 : decode cX6_worthOf 5 = .ok (.iload 4, 2) := by decide +kernel
theorem dX6_worthOf_7 : decode cX6_worthOf 7 = .ok (.aload_n 0, 1) := by decide +kernel
theorem dX6_worthOf_8 : decode cX6_worthOf 8 = .ok (.getfield 51, 3) := by decide +kernel
theorem dX6_worthOf_11 : decode cX6_worthOf 11 = .ok (.if_icmp .ge 37, 3) := by decide +kernel
theorem dX6_worthOf_14 : decode cX6_worthOf 14 = .ok (.iload_n 2, 1) := by decide +kernel
theorem dX6_worthOf_15 : decode cX6_worthOf 15 = .ok (.iload 4, 2) := by decide +kernel
theorem dX6_worthOf_17 : decode cX6_worthOf 17 = .ok (.ishr, 1) := by decide +kernel
theorem dX6_worthOf_18 : decode cX6_worthOf 18 = .ok (.iconst 1, 1) := by decide +kernel
theorem dX6_worthOf_19 : decode cX6_worthOf 19 = .ok (.iand, 1) := by decide +kernel
theorem dX6_worthOf_20 : decode cX6_worthOf 20 = .ok (.iconst 1, 1) := by decide +kernel
theorem dX6_worthOf_21 : decode cX6_worthOf 21 = .ok (.if_icmp .ne 21, 3) := by decide +kernel
theorem dX6_worthOf_24 : decode cX6_worthOf 24 = .ok (.iload_n 3, 1) := by decide +kernel
theorem dX6_worthOf_25 : decode cX6_worthOf 25 = .ok (.aload_n 1, 1) := by decide +kernel
theorem dX6_worthOf_26 : decode cX6_worthOf 26 = .ok (.getfield 92, 3) := by decide +kernel
theorem dX6_worthOf_29 : decode cX6_worthOf 29 = .ok (.getfield 157, 3) := by decide +kernel
theorem dX6_worthOf_32 : decode cX6_worthOf 32 = .ok (.aload_n 0, 1) := by decide +kernel
theorem dX6_worthOf_33 : decode cX6_worthOf 33 = .ok (.getfield 22, 3) := by decide +kernel
theorem dX6_worthOf_36 : decode cX6_worthOf 36 = .ok (.iload 4, 2) := by decide +kernel
theorem dX6_worthOf_38 : decode cX6_worthOf 38 = .ok (.iaload, 1) := by decide +kernel
theorem dX6_worthOf_39 : decode cX6_worthOf 39 = .ok (.iaload, 1) := by decide +kernel
theorem dX6_worthOf_40 : decode cX6_worthOf 40 = .ok (.iadd, 1) := by decide +kernel
theorem dX6_worthOf_41 : decode cX6_worthOf 41 = .ok (.istore_n 3, 1) := by decide +kernel
theorem dX6_worthOf_42 : decode cX6_worthOf 42 = .ok (.iinc 4 1, 3) := by decide +kernel
theorem dX6_worthOf_45 : decode cX6_worthOf 45 = .ok (.goto (-40), 3) := by decide +kernel
theorem dX6_worthOf_48 : decode cX6_worthOf 48 = .ok (.iload_n 3, 1) := by decide +kernel
theorem dX6_worthOf_49 : decode cX6_worthOf 49 = .ok (.ireturn, 1) := by decide +kernel
theorem q_1160 : Cond.fieldLink RX6 86 "LampRound$Planner" "planned" "I" ∈ GW := inG 1160 (by decide +kernel) (by decide +kernel)
theorem q_1162 : Cond.fieldLink RX6 146 "LampRound$Planner" "mostWorth" "I" ∈ GW := inG 1162 (by decide +kernel) (by decide +kernel)
theorem q_1164 : Cond.fieldLink RX6 149 "LampRound$Planner" "leastCost" "J" ∈ GW := inG 1164 (by decide +kernel) (by decide +kernel)
theorem q_1165 : Cond.fieldLink RX6 9 "LampRound$Planner" "costs" "[J" ∈ GW := inG 1165 (by decide +kernel) (by decide +kernel)
theorem q_1166 : Cond.fieldLink RX6 15 "LampRound$Planner" "lifted" "[J" ∈ GW := inG 1166 (by decide +kernel) (by decide +kernel)
theorem q_1167 : Cond.fieldLink RX6 18 "LampRound$Planner" "hops" "[I" ∈ GW := inG 1167 (by decide +kernel) (by decide +kernel)
theorem q_1168 : Cond.fieldLink RX6 22 "LampRound$Planner" "wanted" "[I" ∈ GW := inG 1168 (by decide +kernel) (by decide +kernel)
theorem q_1169 : Cond.fieldLink RX6 51 "LampRound$Planner" "wants" "I" ∈ GW := inG 1169 (by decide +kernel) (by decide +kernel)
theorem q_1170 : Cond.fieldLink RX6 25 "LampRound$Planner" "served" "[I" ∈ GW := inG 1170 (by decide +kernel) (by decide +kernel)
theorem q_1171 : Cond.fieldLink RX6 28 "LampRound$Planner" "wed" "[I" ∈ GW := inG 1171 (by decide +kernel) (by decide +kernel)
theorem q_1197 : Cond.methodLink RX6 31 yX6_gatherNeeds ∈ GW := inG 1197 (by decide +kernel) (by decide +kernel)
theorem q_1199 : Cond.instanceMethod yX6_gatherNeeds ∈ GW := inG 1199 (by decide +kernel) (by decide +kernel)
theorem q_1200 : Cond.code yX6_gatherNeeds cX6_gatherNeeds 6 none ∈ GW := inG 1200 (by decide +kernel) (by decide +kernel)
theorem q_1201 : Cond.methodLink RX6 35 yX6_gatherHops ∈ GW := inG 1201 (by decide +kernel) (by decide +kernel)
theorem q_1203 : Cond.instanceMethod yX6_gatherHops ∈ GW := inG 1203 (by decide +kernel) (by decide +kernel)
theorem q_1204 : Cond.code yX6_gatherHops cX6_gatherHops 5 none ∈ GW := inG 1204 (by decide +kernel) (by decide +kernel)
theorem q_1205 : Cond.methodLink RX6 118 yX5_apart ∈ GW := inG 1205 (by decide +kernel) (by decide +kernel)
theorem q_1206 : Cond.constantLong RX6 54 (-1) ∈ GW := inG 1206 (by decide +kernel) (by decide +kernel)
theorem q_1207 : Cond.methodLink RX6 65 yX1_has ∈ GW := inG 1207 (by decide +kernel) (by decide +kernel)
theorem q_1208 : Cond.methodLink RX6 69 yX6_power ∈ GW := inG 1208 (by decide +kernel) (by decide +kernel)
theorem q_1209 : Cond.static yX6_power ∈ GW := inG 1209 (by decide +kernel) (by decide +kernel)
theorem q_1210 : Cond.code yX6_power cX6_power 4 (some .long) ∈ GW := inG 1210 (by decide +kernel) (by decide +kernel)
theorem q_1211 : Cond.constantLong RX6 80 (10) ∈ GW := inG 1211 (by decide +kernel) (by decide +kernel)
theorem q_1212 : Cond.methodLink RX6 73 yX6_gatherServed ∈ GW := inG 1212 (by decide +kernel) (by decide +kernel)
theorem q_1214 : Cond.instanceMethod yX6_gatherServed ∈ GW := inG 1214 (by decide +kernel) (by decide +kernel)
theorem q_1215 : Cond.code yX6_gatherServed cX6_gatherServed 7 none ∈ GW := inG 1215 (by decide +kernel) (by decide +kernel)
theorem q_1216 : Cond.methodLink RX6 76 yX6_spreadNight ∈ GW := inG 1216 (by decide +kernel) (by decide +kernel)
theorem q_1218 : Cond.instanceMethod yX6_spreadNight ∈ GW := inG 1218 (by decide +kernel) (by decide +kernel)
theorem q_1219 : Cond.code yX6_spreadNight cX6_spreadNight 8 none ∈ GW := inG 1219 (by decide +kernel) (by decide +kernel)
theorem q_1220 : Cond.methodLink RX6 133 yX6_lift ∈ GW := inG 1220 (by decide +kernel) (by decide +kernel)
theorem q_1222 : Cond.instanceMethod yX6_lift ∈ GW := inG 1222 (by decide +kernel) (by decide +kernel)
theorem q_1223 : Cond.code yX6_lift cX6_lift 6 (some .boolean) ∈ GW := inG 1223 (by decide +kernel) (by decide +kernel)
theorem q_1224 : Cond.methodLink RX6 137 yX6_goOn ∈ GW := inG 1224 (by decide +kernel) (by decide +kernel)
theorem q_1226 : Cond.instanceMethod yX6_goOn ∈ GW := inG 1226 (by decide +kernel) (by decide +kernel)
theorem q_1227 : Cond.code yX6_goOn cX6_goOn 14 none ∈ GW := inG 1227 (by decide +kernel) (by decide +kernel)
theorem q_1228 : Cond.methodLink RX6 141 yX4_wasLitAhead ∈ GW := inG 1228 (by decide +kernel) (by decide +kernel)
theorem q_1229 : Cond.constantLong RX6 144 (10000000000) ∈ GW := inG 1229 (by decide +kernel) (by decide +kernel)
theorem q_1230 : Cond.methodLink RX6 82 yX6_choose ∈ GW := inG 1230 (by decide +kernel) (by decide +kernel)
theorem q_1232 : Cond.instanceMethod yX6_choose ∈ GW := inG 1232 (by decide +kernel) (by decide +kernel)
theorem q_1233 : Cond.code yX6_choose cX6_choose 10 none ∈ GW := inG 1233 (by decide +kernel) (by decide +kernel)
theorem q_1234 : Cond.methodLink RX6 153 yX6_worthOf ∈ GW := inG 1234 (by decide +kernel) (by decide +kernel)
theorem q_1236 : Cond.instanceMethod yX6_worthOf ∈ GW := inG 1236 (by decide +kernel) (by decide +kernel)
theorem q_1237 : Cond.code yX6_worthOf cX6_worthOf 5 (some .int) ∈ GW := inG 1237 (by decide +kernel) (by decide +kernel)
theorem q_170 : Cond.initialized RX6 ∈ GW := inG 170 (by decide +kernel) (by decide +kernel)
theorem q_204 : Cond.fieldLink RX6 99 "LampRound$Now" "done" "[I" ∈ GW := inG 204 (by decide +kernel) (by decide +kernel)
theorem q_209 : Cond.fieldLink RX6 102 "LampRound$Now" "spoilt" "I" ∈ GW := inG 209 (by decide +kernel) (by decide +kernel)
theorem q_214 : Cond.fieldLink RX6 60 "LampRound$Now" "lamp" "I" ∈ GW := inG 214 (by decide +kernel) (by decide +kernel)
theorem q_218 : Cond.fieldLink RX6 89 "LampRound$Now" "night" "I" ∈ GW := inG 218 (by decide +kernel) (by decide +kernel)
theorem q_224 : Cond.fieldLink RX6 115 "LampRound$Now" "snow" "I" ∈ GW := inG 224 (by decide +kernel) (by decide +kernel)
theorem q_280 : Cond.fieldLink RX6 45 "LampRound$Houses" "count" "I" ∈ GW := inG 280 (by decide +kernel) (by decide +kernel)
theorem q_31 : Cond.selects RX6 yX6_gatherNeeds yX6_gatherNeeds ∈ GW := inG 31 (by decide +kernel) (by decide +kernel)
theorem q_32 : Cond.selects RX6 yX6_gatherHops yX6_gatherHops ∈ GW := inG 32 (by decide +kernel) (by decide +kernel)
theorem q_33 : Cond.selects RX6 yX6_gatherServed yX6_gatherServed ∈ GW := inG 33 (by decide +kernel) (by decide +kernel)
theorem q_34 : Cond.selects RX6 yX6_spreadNight yX6_spreadNight ∈ GW := inG 34 (by decide +kernel) (by decide +kernel)
theorem q_344 : Cond.fieldLink RX6 130 "LampRound$Needs" "kind" "[I" ∈ GW := inG 344 (by decide +kernel) (by decide +kernel)
theorem q_348 : Cond.fieldLink RX6 127 "LampRound$Needs" "at" "[I" ∈ GW := inG 348 (by decide +kernel) (by decide +kernel)
theorem q_35 : Cond.selects RX6 yX6_lift yX6_lift ∈ GW := inG 35 (by decide +kernel) (by decide +kernel)
theorem q_352 : Cond.fieldLink RX6 105 "LampRound$Needs" "from" "[I" ∈ GW := inG 352 (by decide +kernel) (by decide +kernel)
theorem q_355 : Cond.fieldLink RX6 108 "LampRound$Needs" "to" "[I" ∈ GW := inG 355 (by decide +kernel) (by decide +kernel)
theorem q_359 : Cond.fieldLink RX6 157 "LampRound$Needs" "worth" "[I" ∈ GW := inG 359 (by decide +kernel) (by decide +kernel)
theorem q_36 : Cond.selects RX6 yX6_goOn yX6_goOn ∈ GW := inG 36 (by decide +kernel) (by decide +kernel)
theorem q_362 : Cond.fieldLink RX6 96 "LampRound$Needs" "count" "I" ∈ GW := inG 362 (by decide +kernel) (by decide +kernel)
theorem q_37 : Cond.selects RX6 yX6_choose yX6_choose ∈ GW := inG 37 (by decide +kernel) (by decide +kernel)
theorem q_38 : Cond.selects RX6 yX6_worthOf yX6_worthOf ∈ GW := inG 38 (by decide +kernel) (by decide +kernel)
theorem q_459 : Cond.fieldLink RX6 56 "LampRound$Village" "now" "LLampRound$Now;" ∈ GW := inG 459 (by decide +kernel) (by decide +kernel)
theorem q_462 : Cond.fieldLink RX6 39 "LampRound$Village" "houses" "LLampRound$Houses;" ∈ GW := inG 462 (by decide +kernel) (by decide +kernel)
theorem q_465 : Cond.fieldLink RX6 111 "LampRound$Village" "paths" "LLampRound$Paths;" ∈ GW := inG 465 (by decide +kernel) (by decide +kernel)
theorem q_468 : Cond.fieldLink RX6 92 "LampRound$Village" "needs" "LLampRound$Needs;" ∈ GW := inG 468 (by decide +kernel) (by decide +kernel)
theorem q_486 : Cond.fieldLink RX6 124 "LampRound$Village" "dusk" "I" ∈ GW := inG 486 (by decide +kernel) (by decide +kernel)
theorem hdV_X6_choose : yX6_choose.cls = RX6 ∧ yX6_choose.cls ≠ "java/lang/invoke/MethodHandle" ∧ yX6_choose.cls ≠ "java/lang/invoke/VarHandle" ∧ (parseMethodDescriptor yX6_choose.desc).map (fun d => d.parameters.length) = some 3 := by decide +kernel
theorem hdV_X6_gatherHops : yX6_gatherHops.cls = RX6 ∧ yX6_gatherHops.cls ≠ "java/lang/invoke/MethodHandle" ∧ yX6_gatherHops.cls ≠ "java/lang/invoke/VarHandle" ∧ (parseMethodDescriptor yX6_gatherHops.desc).map (fun d => d.parameters.length) = some 1 := by decide +kernel
theorem hdV_X6_gatherNeeds : yX6_gatherNeeds.cls = RX6 ∧ yX6_gatherNeeds.cls ≠ "java/lang/invoke/MethodHandle" ∧ yX6_gatherNeeds.cls ≠ "java/lang/invoke/VarHandle" ∧ (parseMethodDescriptor yX6_gatherNeeds.desc).map (fun d => d.parameters.length) = some 2 := by decide +kernel
theorem hdV_X6_gatherServed : yX6_gatherServed.cls = RX6 ∧ yX6_gatherServed.cls ≠ "java/lang/invoke/MethodHandle" ∧ yX6_gatherServed.cls ≠ "java/lang/invoke/VarHandle" ∧ (parseMethodDescriptor yX6_gatherServed.desc).map (fun d => d.parameters.length) = some 2 := by decide +kernel
theorem hdV_X6_goOn : yX6_goOn.cls = RX6 ∧ yX6_goOn.cls ≠ "java/lang/invoke/MethodHandle" ∧ yX6_goOn.cls ≠ "java/lang/invoke/VarHandle" ∧ (parseMethodDescriptor yX6_goOn.desc).map (fun d => d.parameters.length) = some 5 := by decide +kernel
theorem hdV_X6_lift : yX6_lift.cls = RX6 ∧ yX6_lift.cls ≠ "java/lang/invoke/MethodHandle" ∧ yX6_lift.cls ≠ "java/lang/invoke/VarHandle" ∧ (parseMethodDescriptor yX6_lift.desc).map (fun d => d.parameters.length) = some 2 := by decide +kernel
theorem hdV_X6_power : yX6_power.cls = RX6 ∧ yX6_power.cls ≠ "java/lang/invoke/MethodHandle" ∧ yX6_power.cls ≠ "java/lang/invoke/VarHandle" ∧ (parseMethodDescriptor yX6_power.desc).map (fun d => d.parameters.length) = some 1 := by decide +kernel
theorem hdV_X6_spreadNight : yX6_spreadNight.cls = RX6 ∧ yX6_spreadNight.cls ≠ "java/lang/invoke/MethodHandle" ∧ yX6_spreadNight.cls ≠ "java/lang/invoke/VarHandle" ∧ (parseMethodDescriptor yX6_spreadNight.desc).map (fun d => d.parameters.length) = some 4 := by decide +kernel
theorem hdV_X6_worthOf : yX6_worthOf.cls = RX6 ∧ yX6_worthOf.cls ≠ "java/lang/invoke/MethodHandle" ∧ yX6_worthOf.cls ≠ "java/lang/invoke/VarHandle" ∧ (parseMethodDescriptor yX6_worthOf.desc).map (fun d => d.parameters.length) = some 2 := by decide +kernel
