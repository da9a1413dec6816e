theorem dX12_allRows_0 : decode cX12_allRows 0 = .ok (.lconst 0, 1) := by decide +kernel
theorem dX12_allRows_1 : decode cX12_allRows 1 = .ok (.lstore_n 2, 1) := by decide +kernel
theorem dX12_allRows_2 : decode cX12_allRows 2 = .ok (.iconst 0, 1) := by decide +kernel
theorem dX12_allRows_3 : decode cX12_allRows 3 = .ok (.istore 4, 2) := by decide +kernel
theorem dX12_allRows_5 : decode cX12_allRows 5 = .ok (.iload 4, 2) := by decide +kernel
theorem dX12_allRows_7 : decode cX12_allRows 7 = .ok (.aload_n 0, 1) := by decide +kernel
theorem dX12_allRows_8 : decode cX12_allRows 8 = .ok (.getfield 148, 3) := by decide +kernel
theorem dX12_allRows_11 : decode cX12_allRows 11 = .ok (.if_icmp .ge 26, 3) := by decide +kernel
theorem dX12_allRows_14 : decode cX12_allRows 14 = .ok (.lload_n 2, 1) := by decide +kernel
theorem dX12_allRows_15 : decode cX12_allRows 15 = .ok (.aload_n 0, 1) := by decide +kernel
theorem dX12_allRows_16 : decode cX12_allRows 16 = .ok (.getfield 120, 3) := by decide +kernel
theorem dX12_allRows_19 : decode cX12_allRows 19 = .ok (.bipush 10, 2) := by decide +kernel
theorem dX12_allRows_21 : decode cX12_allRows 21 = .ok (.iload_n 1, 1) := by decide +kernel
theorem dX12_allRows_22 : decode cX12_allRows 22 = .ok (.iconst 1, 1) := by decide +kernel
theorem dX12_allRows_23 : decode cX12_allRows 23 = .ok (.isub, 1) := by decide +kernel
theorem dX12_allRows_24 : decode cX12_allRows 24 = .ok (.imul, 1) := by decide +kernel
theorem dX12_allRows_25 : decode cX12_allRows 25 = .ok (.iload 4, 2) := by decide +kernel
theorem dX12_allRows_27 : decode cX12_allRows 27 = .ok (.iadd, 1) := by decide +kernel
theorem dX12_allRows_28 : decode cX12_allRows 28 = .ok (.laload, 1) := by decide +kernel
theorem dX12_allRows_29 : decode cX12_allRows 29 = .ok (.ladd, 1) := by decide +kernel
theorem dX12_allRows_30 : decode cX12_allRows 30 = .ok (.lstore_n 2, 1) := by decide +kernel
theorem dX12_allRows_31 : decode cX12_allRows 31 = .ok (.iinc 4 1, 3) := by decide +kernel
theorem dX12_allRows_34 : decode cX12_allRows 34 = .ok (.goto (-29), 3) := by decide +kernel
theorem dX12_allRows_37 : decode cX12_allRows 37 = .ok (.lload_n 2, 1) := by decide +kernel
theorem dX12_allRows_38 : decode cX12_allRows 38 = .ok (.lreturn, 1) := by decide +kernel
theorem dX12_been_0 : decode cX12_been 0 = .ok (.aload_n 0, 1) := by decide +kernel
theorem dX12_been_1 : decode cX12_been 1 = .ok (.iconst 0, 1) := by decide +kernel
theorem dX12_been_2 : decode cX12_been 2 = .ok (.putfield 130, 3) := by decide +kernel
theorem dX12_been_5 : decode cX12_been 5 = .ok (.aload_n 0, 1) := by decide +kernel
theorem dX12_been_6 : decode cX12_been 6 = .ok (.iload_n 1, 1) := by decide +kernel
theorem dX12_been_7 : decode cX12_been 7 = .ok (.iconst 1, 1) := by decide +kernel
theorem dX12_been_8 : decode cX12_been 8 = .ok (.bipush 10, 2) := by decide +kernel
theorem dX12_been_10 : decode cX12_been 10 = .ok (.invokevirtual 151, 3) := by decide +kernel
theorem dX12_been_13 : decode cX12_been 13 = .ok (.ifCond .eq 15, 3) := by decide +kernel
theorem dX12_been_16 : decode cX12_been 16 = .ok (.aload_n 0, 1) := by decide +kernel
theorem dX12_been_17 : decode cX12_been 17 = .ok (.iload_n 2, 1) := by decide +kernel
theorem dX12_been_18 : decode cX12_been 18 = .ok (.iconst 0, 1) := by decide +kernel
theorem dX12_been_19 : decode cX12_been 19 = .ok (.iload_n 1, 1) := by decide +kernel
theorem dX12_been_20 : decode cX12_been 20 = .ok (.iconst 1, 1) := by decide +kernel
theorem dX12_been_21 : decode cX12_been 21 = .ok (.isub, 1) := by decide +kernel
theorem dX12_been_22 : decode cX12_been 22 = .ok (.invokevirtual 151, 3) := by decide +kernel
theorem dX12_been_25 : decode cX12_been 25 = .ok (.ifCond .ne 5, 3) := by decide +kernel
theorem dX12_been_28 : decode cX12_been 28 = .ok (.iconst (-1), 1) := by decide +kernel
theorem dX12_been_29 : decode cX12_been 29 = .ok (.ireturn, 1) := by decide +kernel
theorem dX12_been_30 : decode cX12_been 30 = .ok (.aload_n 0, 1) := by decide +kernel
theorem dX12_been_31 : decode cX12_been 31 = .ok (.iload_n 1, 1) := by decide +kernel
theorem dX12_been_32 : decode cX12_been 32 = .ok (.invokevirtual 529, 3) := by decide +kernel
theorem dX12_been_35 : decode cX12_been 35 = .ok (.iconst 0, 1) := by decide +kernel
theorem dX12_been_36 : decode cX12_been 36 = .ok (.istore_n 3, 1) := by decide +kernel
theorem dX12_been_37 : decode cX12_been 37 = .ok (.iconst 0, 1) := by decide +kernel
theorem dX12_been_38 : decode cX12_been 38 = .ok (.istore 4, 2) := by decide +kernel
theorem dX12_been_40 : decode cX12_been 40 = .ok (.iload 4, 2) := by decide +kernel
theorem dX12_been_42 : decode cX12_been 42 = .ok (.aload_n 0, 1) := by decide +kernel
theorem dX12_been_43 : decode cX12_been 43 = .ok (.getfield 148, 3) := by decide +kernel
theorem dX12_been_46 : decode cX12_been 46 = .ok (.if_icmp .ge 28, 3) := by decide +kernel
theorem dX12_been_49 : decode cX12_been 49 = .ok (.aload_n 0, 1) := by decide +kernel
theorem dX12_been_50 : decode cX12_been 50 = .ok (.iload_n 2, 1) := by decide +kernel
theorem dX12_been_51 : decode cX12_been 51 = .ok (.iload 4, 2) := by decide +kernel
theorem dX12_been_53 : decode cX12_been 53 = .ok (.invokevirtual 536, 3) := by decide +kernel
theorem dX12_been_56 : decode cX12_been 56 = .ok (.lconst 0, 1) := by decide +kernel
theorem dX12_been_57 : decode cX12_been 57 = .ok (.lcmp, 1) := by decide +kernel
theorem dX12_been_58 : decode cX12_been 58 = .ok (.ifCond .le 10, 3) := by decide +kernel
theorem dX12_been_61 : decode cX12_been 61 = .ok (.iload_n 3, 1) := by decide +kernel
theorem dX12_been_62 : decode cX12_been 62 = .ok (.iconst 1, 1) := by decide +kernel
theorem dX12_been_63 : decode cX12_been 63 = .ok (.iload 4, 2) := by decide +kernel
theorem dX12_been_65 : decode cX12_been 65 = .ok (.ishl, 1) := by decide +kernel
theorem dX12_been_66 : decode cX12_been 66 = .ok (.ior, 1) := by decide +kernel
theorem dX12_been_67 : decode cX12_been 67 = .ok (.istore_n 3, 1) := by decide +kernel
theorem dX12_been_68 : decode cX12_been 68 = .ok (.iinc 4 1, 3) := by decide +kernel
theorem dX12_been_71 : decode cX12_been 71 = .ok (.goto (-31), 3) := by decide +kernel
theorem dX12_been_74 : decode cX12_been 74 = .ok (.iload_n 3, 1) := by decide +kernel
theorem dX12_been_75 : decode cX12_been 75 = .ok (.ireturn, 1) := by decide +kernel
theorem dX12_best_0 : decode cX12_best 0 = .ok (.aload_n 0, 1) := by decide +kernel
theorem dX12_best_1 : decode cX12_best 1 = .ok (.iconst 0, 1) := by decide +kernel
theorem dX12_best_2 : decode cX12_best 2 = .ok (.putfield 130, 3) := by decide +kernel
theorem dX12_best_5 : decode cX12_best 5 = .ok (.aload_n 0, 1) := by decide +kernel
theorem dX12_best_6 : decode cX12_best 6 = .ok (.iload_n 1, 1) := by decide +kernel
theorem dX12_best_7 : decode cX12_best 7 = .ok (.invokevirtual 155, 3) := by decide +kernel
theorem dX12_best_10 : decode cX12_best 10 = .ok (.ifCond .eq 14, 3) := by decide +kernel
theorem dX12_best_13 : decode cX12_best 13 = .ok (.aload_n 0, 1) := by decide +kernel
theorem dX12_best_14 : decode cX12_best 14 = .ok (.iload_n 2, 1) := by decide +kernel
theorem dX12_best_15 : decode cX12_best 15 = .ok (.iconst 1, 1) := by decide +kernel
theorem dX12_best_16 : decode cX12_best 16 = .ok (.bipush 9, 2) := by decide +kernel
theorem dX12_best_18 : decode cX12_best 18 = .ok (.invokevirtual 151, 3) := by decide +kernel
theorem dX12_best_21 : decode cX12_best 21 = .ok (.ifCond .ne 5, 3) := by decide +kernel
theorem dX12_best_24 : decode cX12_best 24 = .ok (.iconst (-1), 1) := by decide +kernel
theorem dX12_best_25 : decode cX12_best 25 = .ok (.ireturn, 1) := by decide +kernel
theorem dX12_best_26 : decode cX12_best 26 = .ok (.aload_n 0, 1) := by decide +kernel
theorem dX12_best_27 : decode cX12_best 27 = .ok (.aload_n 0, 1) := by decide +kernel
theorem dX12_best_28 : decode cX12_best 28 = .ok (.getfield 7, 3) := by decide +kernel
theorem dX12_best_31 : decode cX12_best 31 = .ok (.iconst 4, 1) := by decide +kernel
theorem dX12_best_32 : decode cX12_best 32 = .ok (.iaload, 1) := by decide +kernel
theorem dX12_best_33 : decode cX12_best 33 = .ok (.invokevirtual 353, 3) := by decide +kernel
theorem dX12_best_36 : decode cX12_best 36 = .ok (.aload_n 0, 1) := by decide +kernel
theorem dX12_best_37 : decode cX12_best 37 = .ok (.aload_n 0, 1) := by decide +kernel
theorem dX12_best_38 : decode cX12_best 38 = .ok (.getfield 7, 3) := by decide +kernel
theorem dX12_best_41 : decode cX12_best 41 = .ok (.iconst 3, 1) := by decide +kernel
theorem dX12_best_42 : decode cX12_best 42 = .ok (.iaload, 1) := by decide +kernel
theorem dX12_best_43 : decode cX12_best 43 = .ok (.invokevirtual 435, 3) := by decide +kernel
theorem dX12_best_46 : decode cX12_best 46 = .ok (.istore_n 3, 1) := by decide +kernel
theorem dX12_best_47 : decode cX12_best 47 = .ok (.iconst (-1), 1) := by decide +kernel
theorem dX12_best_48 : decode cX12_best 48 = .ok (.istore 4, 2) := by decide +kernel
theorem dX12_best_50 : decode cX12_best 50 = .ok (.iconst (-1), 1) := by decide +kernel
theorem dX12_best_51 : decode cX12_best 51 = .ok (.istore 5, 2) := by decide +kernel
theorem dX12_best_53 : decode cX12_best 53 = .ok (.iconst 0, 1) := by decide +kernel
theorem dX12_best_54 : decode cX12_best 54 = .ok (.istore 6, 2) := by decide +kernel
theorem dX12_best_56 : decode cX12_best 56 = .ok (.iload 6, 2) := by decide +kernel
theorem dX12_best_58 : decode cX12_best 58 = .ok (.aload_n 0, 1) := by decide +kernel
theorem dX12_best_59 : decode cX12_best 59 = .ok (.getfield 148, 3) := by decide +kernel
theorem dX12_best_62 : decode cX12_best 62 = .ok (.if_icmp .ge 59, 3) := by decide +kernel
theorem dX12_best_65 : decode cX12_best 65 = .ok (.iload_n 3, 1) := by decide +kernel
theorem dX12_best_66 : decode cX12_best 66 = .ok (.iload 6, 2) := by decide +kernel
theorem dX12_best_68 : decode cX12_best 68 = .ok (.ishr, 1) := by decide +kernel
theorem dX12_best_69 : decode cX12_best 69 = .ok (.iconst 1, 1) := by decide +kernel
theorem dX12_best_70 : decode cX12_best 70 = .ok (.iand, 1) := by decide +kernel
theorem dX12_best_71 : decode cX12_best 71 = .ok (.iconst 1, 1) := by decide +kernel
theorem dX12_best_72 : decode cX12_best 72 = .ok (.if_icmp .ne 14, 3) := by decide +kernel
theorem dX12_best_75 : decode cX12_best 75 = .ok (.aload_n 0, 1) := by decide +kernel
theorem dX12_best_76 : decode cX12_best 76 = .ok (.iload 6, 2) := by decide +kernel
theorem dX12_best_78 : decode cX12_best 78 = .ok (.iload_n 1, 1) := by decide +kernel
theorem dX12_best_79 : decode cX12_best 79 = .ok (.iload_n 2, 1) := by decide +kernel
theorem dX12_best_80 : decode cX12_best 80 = .ok (.invokevirtual 514, 3) := by decide +kernel
theorem dX12_best_83 : decode cX12_best 83 = .ok (.goto 4, 3) := by decide +kernel
theorem dX12_best_86 : decode cX12_best 86 = .ok (.iconst (-1), 1) := by decide +kernel
theorem dX12_best_87 : decode cX12_best 87 = .ok (.istore 7, 2) := by decide +kernel
theorem dX12_best_89 : decode cX12_best 89 = .ok (.iload 7, 2) := by decide +kernel
theorem dX12_best_91 : decode cX12_best 91 = .ok (.iload 5, 2) := by decide +kernel
theorem dX12_best_93 : decode cX12_best 93 = .ok (.if_icmp .le 8, 3) := by decide +kernel
theorem dX12_best_96 : decode cX12_best 96 = .ok (.iload 6, 2) := by decide +kernel
theorem dX12_best_98 : decode cX12_best 98 = .ok (.goto 5, 3) := by decide +kernel
theorem dX12_best_101 : decode cX12_best 101 = .ok (.iload 4, 2) := by decide +kernel
theorem dX12_best_103 : decode cX12_best 103 = .ok (.istore 4, 2) := by decide +kernel
theorem dX12_best_105 : decode cX12_best 105 = .ok (.aload_n 0, 1) := by decide +kernel
theorem dX12_best_106 : decode cX12_best 106 = .ok (.iload 7, 2) := by decide +kernel
theorem dX12_best_108 : decode cX12_best 108 = .ok (.iload 5, 2) := by decide +kernel
theorem dX12_best_110 : decode cX12_best 110 = .ok (.invokevirtual 490, 3) := by decide +kernel
theorem dX12_best_113 : decode cX12_best 113 = .ok (.istore 5, 2) := by decide +kernel
theorem dX12_best_115 : decode cX12_best 115 = .ok (.iinc 6 1, 3) := by decide +kernel
theorem dX12_best_118 : decode cX12_best 118 = .ok (.goto (-62), 3) := by decide +kernel
theorem dX12_best_121 : decode cX12_best 121 = .ok (.iload 4, 2) := by decide +kernel
theorem dX12_best_123 : decode cX12_best 123 = .ok (.ireturn, 1) := by decide +kernel
theorem dX12_book_0 : decode cX12_book 0 = .ok (.aload_n 0, 1) := by decide +kernel
theorem dX12_book_1 : decode cX12_book 1 = .ok (.iconst 0, 1) := by decide +kernel
theorem dX12_book_2 : decode cX12_book 2 = .ok (.putfield 130, 3) := by decide +kernel
theorem dX12_book_5 : decode cX12_book 5 = .ok (.aload_n 0, 1) := by decide +kernel
theorem dX12_book_6 : decode cX12_book 6 = .ok (.iload_n 1, 1) := by decide +kernel
theorem dX12_book_7 : decode cX12_book 7 = .ok (.iconst 0, 1) := by decide +kernel
theorem dX12_book_8 : decode cX12_book 8 = .ok (.aload_n 0, 1) := by decide +kernel
theorem dX12_book_9 : decode cX12_book 9 = .ok (.getfield 7, 3) := by decide +kernel
theorem dX12_book_12 : decode cX12_book 12 = .ok (.iconst 2, 1) := by decide +kernel
theorem dX12_book_13 : decode cX12_book 13 = .ok (.iaload, 1) := by decide +kernel
theorem dX12_book_14 : decode cX12_book 14 = .ok (.iconst 1, 1) := by decide +kernel
theorem dX12_book_15 : decode cX12_book 15 = .ok (.isub, 1) := by decide +kernel
theorem dX12_book_16 : decode cX12_book 16 = .ok (.invokevirtual 151, 3) := by decide +kernel
theorem dX12_book_19 : decode cX12_book 19 = .ok (.ifCond .eq 27, 3) := by decide +kernel
theorem dX12_book_22 : decode cX12_book 22 = .ok (.aload_n 0, 1) := by decide +kernel
theorem dX12_book_23 : decode cX12_book 23 = .ok (.iload_n 2, 1) := by decide +kernel
theorem dX12_book_24 : decode cX12_book 24 = .ok (.iconst 0, 1) := by decide +kernel
theorem dX12_book_25 : decode cX12_book 25 = .ok (.iconst 5, 1) := by decide +kernel
theorem dX12_book_26 : decode cX12_book 26 = .ok (.invokevirtual 151, 3) := by decide +kernel
theorem dX12_book_29 : decode cX12_book 29 = .ok (.ifCond .eq 17, 3) := by decide +kernel
theorem dX12_book_32 : decode cX12_book 32 = .ok (.aload_n 0, 1) := by decide +kernel
theorem dX12_book_33 : decode cX12_book 33 = .ok (.getfield 34, 3) := by decide +kernel
theorem dX12_book_36 : decode cX12_book 36 = .ok (.bipush 6, 2) := by decide +kernel
theorem dX12_book_38 : decode cX12_book 38 = .ok (.iload_n 1, 1) := by decide +kernel
theorem dX12_book_39 : decode cX12_book 39 = .ok (.imul, 1) := by decide +kernel
theorem dX12_book_40 : decode cX12_book 40 = .ok (.iload_n 2, 1) := by decide +kernel
theorem dX12_book_41 : decode cX12_book 41 = .ok (.iadd, 1) := by decide +kernel
theorem dX12_book_42 : decode cX12_book 42 = .ok (.iaload, 1) := by decide +kernel
theorem dX12_book_43 : decode cX12_book 43 = .ok (.goto 4, 3) := by decide +kernel
theorem dX12_book_46 : decode cX12_book 46 = .ok (.iconst (-1), 1) := by decide +kernel
theorem dX12_book_47 : decode cX12_book 47 = .ok (.ireturn, 1) := by decide +kernel
theorem dX12_canAsk_0 : decode cX12_canAsk 0 = .ok (.aload_n 0, 1) := by decide +kernel
theorem dX12_canAsk_1 : decode cX12_canAsk 1 = .ok (.iload_n 1, 1) := by decide +kernel
theorem dX12_canAsk_2 : decode cX12_canAsk 2 = .ok (.bipush 6, 2) := by decide +kernel
theorem dX12_canAsk_4 : decode cX12_canAsk 4 = .ok (.aload_n 0, 1) := by decide +kernel
theorem dX12_canAsk_5 : decode cX12_canAsk 5 = .ok (.getfield 216, 3) := by decide +kernel
theorem dX12_canAsk_8 : decode cX12_canAsk 8 = .ok (.ifCond .ne 8, 3) := by decide +kernel
theorem dX12_canAsk_11 : decode cX12_canAsk 11 = .ok (.bipush 15, 2) := by decide +kernel
theorem dX12_canAsk_13 : decode cX12_canAsk 13 = .ok (.goto 5, 3) := by decide +kernel
theorem dX12_canAsk_16 : decode cX12_canAsk 16 = .ok (.bipush 13, 2) := by decide +kernel
theorem dX12_canAsk_18 : decode cX12_canAsk 18 = .ok (.invokevirtual 151, 3) := by decide +kernel
theorem dX12_canAsk_21 : decode cX12_canAsk 21 = .ok (.ireturn, 1) := by decide +kernel
theorem dX12_canBe_0 : decode cX12_canBe 0 = .ok (.iconst 0, 1) := by decide +kernel
theorem dX12_canBe_1 : decode cX12_canBe 1 = .ok (.istore_n 3, 1) := by decide +kernel
theorem dX12_canBe_2 : decode cX12_canBe 2 = .ok (.iload_n 3, 1) := by decide +kernel
theorem dX12_canBe_3 : decode cX12_canBe 3 = .ok (.aload_n 0, 1) := by decide +kernel
theorem dX12_canBe_4 : decode cX12_canBe 4 = .ok (.getfield 517, 3) := by decide +kernel
theorem dX12_canBe_7 : decode cX12_canBe 7 = .ok (.if_icmp .ge 34, 3) := by decide +kernel
theorem dX12_canBe_10 : decode cX12_canBe 10 = .ok (.aload_n 0, 1) := by decide +kernel
theorem dX12_canBe_11 : decode cX12_canBe 11 = .ok (.getfield 37, 3) := by decide +kernel
theorem dX12_canBe_14 : decode cX12_canBe 14 = .ok (.iload_n 3, 1) := by decide +kernel
theorem dX12_canBe_15 : decode cX12_canBe 15 = .ok (.iaload, 1) := by decide +kernel
theorem dX12_canBe_16 : decode cX12_canBe 16 = .ok (.iload_n 1, 1) := by decide +kernel
theorem dX12_canBe_17 : decode cX12_canBe 17 = .ok (.if_icmp .ne 18, 3) := by decide +kernel
theorem dX12_canBe_20 : decode cX12_canBe 20 = .ok (.aload_n 0, 1) := by decide +kernel
theorem dX12_canBe_21 : decode cX12_canBe 21 = .ok (.getfield 40, 3) := by decide +kernel
theorem dX12_canBe_24 : decode cX12_canBe 24 = .ok (.iload_n 3, 1) := by decide +kernel
theorem dX12_canBe_25 : decode cX12_canBe 25 = .ok (.iaload, 1) := by decide +kernel
theorem dX12_canBe_26 : decode cX12_canBe 26 = .ok (.iload_n 2, 1) := by decide +kernel
theorem dX12_canBe_27 : decode cX12_canBe 27 = .ok (.ishr, 1) := by decide +kernel
theorem dX12_canBe_28 : decode cX12_canBe 28 = .ok (.iconst 1, 1) := by decide +kernel
theorem dX12_canBe_29 : decode cX12_canBe 29 = .ok (.iand, 1) := by decide +kernel
theorem dX12_canBe_30 : decode cX12_canBe 30 = .ok (.ifCond .ne 5, 3) := by decide +kernel
theorem dX12_canBe_33 : decode cX12_canBe 33 = .ok (.iconst 0, 1) := by decide +kernel
theorem dX12_canBe_34 : decode cX12_canBe 34 = .ok (.ireturn, 1) := by decide +kernel
theorem dX12_canBe_35 : decode cX12_canBe 35 = .ok (.iinc 3 1, 3) := by decide +kernel
theorem dX12_canBe_38 : decode cX12_canBe 38 = .ok (.goto (-36), 3) := by decide +kernel
theorem dX12_canBe_41 : decode cX12_canBe 41 = .ok (.iconst 1, 1) := by decide +kernel
theorem dX12_canBe_42 : decode cX12_canBe 42 = .ok (.ireturn, 1) := by decide +kernel
theorem dX12_clue_0 : decode cX12_clue 0 = .ok (.aload_n 0, 1) := by decide +kernel
theorem dX12_clue_1 : decode cX12_clue 1 = .ok (.iconst 0, 1) := by decide +kernel
theorem dX12_clue_2 : decode cX12_clue 2 = .ok (.putfield 130, 3) := by decide +kernel
theorem dX12_clue_5 : decode cX12_clue 5 = .ok (.iload_n 1, 1) := by decide +kernel
theorem dX12_clue_6 : decode cX12_clue 6 = .ok (.iconst (-1), 1) := by decide +kernel
theorem dX12_clue_7 : decode cX12_clue 7 = .ok (.if_icmp .ne 10, 3) := by decide +kernel
theorem dX12_clue_10 : decode cX12_clue 10 = .ok (.aload_n 0, 1) := by decide +kernel
theorem dX12_clue_11 : decode cX12_clue 11 = .ok (.iconst 0, 1) := by decide +kernel
theorem dX12_clue_12 : decode cX12_clue 12 = .ok (.putfield 517, 3) := by decide +kernel
theorem dX12_clue_15 : decode cX12_clue 15 = .ok (.iconst 0, 1) := by decide +kernel
theorem dX12_clue_16 : decode cX12_clue 16 = .ok (.ireturn, 1) := by decide +kernel
theorem dX12_clue_17 : decode cX12_clue 17 = .ok (.aload_n 0, 1) := by decide +kernel
theorem dX12_clue_18 : decode cX12_clue 18 = .ok (.iload_n 1, 1) := by decide +kernel
theorem dX12_clue_19 : decode cX12_clue 19 = .ok (.iconst 0, 1) := by decide +kernel
theorem dX12_clue_20 : decode cX12_clue 20 = .ok (.bipush 9, 2) := by decide +kernel
theorem dX12_clue_22 : decode cX12_clue 22 = .ok (.invokevirtual 151, 3) := by decide +kernel
theorem dX12_clue_25 : decode cX12_clue 25 = .ok (.ifCond .eq 27, 3) := by decide +kernel
theorem dX12_clue_28 : decode cX12_clue 28 = .ok (.iload_n 2, 1) := by decide +kernel
theorem dX12_clue_29 : decode cX12_clue 29 = .ok (.iconst 1, 1) := by decide +kernel
theorem dX12_clue_30 : decode cX12_clue 30 = .ok (.if_icmp .lt 22, 3) := by decide +kernel
theorem dX12_clue_33 : decode cX12_clue 33 = .ok (.iload_n 2, 1) := by decide +kernel
theorem dX12_clue_34 : decode cX12_clue 34 = .ok (.iconst 1, 1) := by decide +kernel
theorem dX12_clue_35 : decode cX12_clue 35 = .ok (.aload_n 0, 1) := by decide +kernel
theorem dX12_clue_36 : decode cX12_clue 36 = .ok (.getfield 148, 3) := by decide +kernel
theorem dX12_clue_39 : decode cX12_clue 39 = .ok (.ishl, 1) := by decide +kernel
theorem dX12_clue_40 : decode cX12_clue 40 = .ok (.if_icmp .ge 12, 3) := by decide +kernel
theorem dX12_clue_43 : decode cX12_clue 43 = .ok (.aload_n 0, 1) := by decide +kernel
theorem dX12_clue_44 : decode cX12_clue 44 = .ok (.getfield 517, 3) := by decide +kernel
theorem dX12_clue_47 : decode cX12_clue 47 = .ok (.bipush 8, 2) := by decide +kernel
theorem dX12_clue_49 : decode cX12_clue 49 = .ok (.if_icmp .ne 5, 3) := by decide +kernel
theorem dX12_clue_52 : decode cX12_clue 52 = .ok (.iconst (-1), 1) := by decide +kernel
theorem dX12_clue_53 : decode cX12_clue 53 = .ok (.ireturn, 1) := by decide +kernel
theorem dX12_clue_54 : decode cX12_clue 54 = .ok (.aload_n 0, 1) := by decide +kernel
theorem dX12_clue_55 : decode cX12_clue 55 = .ok (.getfield 37, 3) := by decide +kernel
theorem dX12_clue_58 : decode cX12_clue 58 = .ok (.aload_n 0, 1) := by decide +kernel
theorem dX12_clue_59 : decode cX12_clue 59 = .ok (.getfield 517, 3) := by decide +kernel
theorem dX12_clue_62 : decode cX12_clue 62 = .ok (.iload_n 1, 1) := by decide +kernel
theorem dX12_clue_63 : decode cX12_clue 63 = .ok (.iastore, 1) := by decide +kernel
theorem dX12_clue_64 : decode cX12_clue 64 = .ok (.aload_n 0, 1) := by decide +kernel
theorem dX12_clue_65 : decode cX12_clue 65 = .ok (.getfield 40, 3) := by decide +kernel
theorem dX12_clue_68 : decode cX12_clue 68 = .ok (.aload_n 0, 1) := by decide +kernel
theorem dX12_clue_69 : decode cX12_clue 69 = .ok (.getfield 517, 3) := by decide +kernel
theorem dX12_clue_72 : decode cX12_clue 72 = .ok (.iload_n 2, 1) := by decide +kernel
theorem dX12_clue_73 : decode cX12_clue 73 = .ok (.iastore, 1) := by decide +kernel
theorem dX12_clue_74 : decode cX12_clue 74 = .ok (.aload_n 0, 1) := by decide +kernel
theorem dX12_clue_75 : decode cX12_clue 75 = .ok (.aload_n 0, 1) := by decide +kernel
theorem dX12_clue_76 : decode cX12_clue 76 = .ok (.getfield 517, 3) := by decide +kernel
theorem dX12_clue_79 : decode cX12_clue 79 = .ok (.iconst 1, 1) := by decide +kernel
theorem dX12_clue_80 : decode cX12_clue 80 = .ok (.iadd, 1) := by decide +kernel
theorem dX12_clue_81 : decode cX12_clue 81 = .ok (.putfield 517, 3) := by decide +kernel
theorem dX12_clue_84 : decode cX12_clue 84 = .ok (.aload_n 0, 1) := by decide +kernel
theorem dX12_clue_85 : decode cX12_clue 85 = .ok (.getfield 517, 3) := by decide +kernel
theorem dX12_clue_88 : decode cX12_clue 88 = .ok (.ireturn, 1) := by decide +kernel
theorem dX12_doesEnvy_0 : decode cX12_doesEnvy 0 = .ok (.aload_n 0, 1) := by decide +kernel
theorem dX12_doesEnvy_1 : decode cX12_doesEnvy 1 = .ok (.getfield 7, 3) := by decide +kernel
theorem dX12_doesEnvy_4 : decode cX12_doesEnvy 4 = .ok (.bipush 26, 2) := by decide +kernel
theorem dX12_doesEnvy_6 : decode cX12_doesEnvy 6 = .ok (.iload_n 2, 1) := by decide +kernel
theorem dX12_doesEnvy_7 : decode cX12_doesEnvy 7 = .ok (.iadd, 1) := by decide +kernel
theorem dX12_doesEnvy_8 : decode cX12_doesEnvy 8 = .ok (.iaload, 1) := by decide +kernel
theorem dX12_doesEnvy_9 : decode cX12_doesEnvy 9 = .ok (.aload_n 0, 1) := by decide +kernel
theorem dX12_doesEnvy_10 : decode cX12_doesEnvy 10 = .ok (.getfield 22, 3) := by decide +kernel
theorem dX12_doesEnvy_13 : decode cX12_doesEnvy 13 = .ok (.iload_n 1, 1) := by decide +kernel
theorem dX12_doesEnvy_14 : decode cX12_doesEnvy 14 = .ok (.iaload, 1) := by decide +kernel
theorem dX12_doesEnvy_15 : decode cX12_doesEnvy 15 = .ok (.imul, 1) := by decide +kernel
theorem dX12_doesEnvy_16 : decode cX12_doesEnvy 16 = .ok (.aload_n 0, 1) := by decide +kernel
theorem dX12_doesEnvy_17 : decode cX12_doesEnvy 17 = .ok (.getfield 7, 3) := by decide +kernel
theorem dX12_doesEnvy_20 : decode cX12_doesEnvy 20 = .ok (.bipush 26, 2) := by decide +kernel
theorem dX12_doesEnvy_22 : decode cX12_doesEnvy 22 = .ok (.iload_n 1, 1) := by decide +kernel
theorem dX12_doesEnvy_23 : decode cX12_doesEnvy 23 = .ok (.iadd, 1) := by decide +kernel
theorem dX12_doesEnvy_24 : decode cX12_doesEnvy 24 = .ok (.iaload, 1) := by decide +kernel
theorem dX12_doesEnvy_25 : decode cX12_doesEnvy 25 = .ok (.aload_n 0, 1) := by decide +kernel
theorem dX12_doesEnvy_26 : decode cX12_doesEnvy 26 = .ok (.getfield 169, 3) := by decide +kernel
theorem dX12_doesEnvy_29 : decode cX12_doesEnvy 29 = .ok (.iadd, 1) := by decide +kernel
theorem dX12_doesEnvy_30 : decode cX12_doesEnvy 30 = .ok (.aload_n 0, 1) := by decide +kernel
theorem dX12_doesEnvy_31 : decode cX12_doesEnvy 31 = .ok (.getfield 22, 3) := by decide +kernel
theorem dX12_doesEnvy_34 : decode cX12_doesEnvy 34 = .ok (.iload_n 2, 1) := by decide +kernel
theorem dX12_doesEnvy_35 : decode cX12_doesEnvy 35 = .ok (.iaload, 1) := by decide +kernel
theorem dX12_doesEnvy_36 : decode cX12_doesEnvy 36 = .ok (.imul, 1) := by decide +kernel
theorem dX12_doesEnvy_37 : decode cX12_doesEnvy 37 = .ok (.if_icmp .le 7, 3) := by decide +kernel
theorem dX12_doesEnvy_40 : decode cX12_doesEnvy 40 = .ok (.iconst 1, 1) := by decide +kernel
theorem dX12_doesEnvy_41 : decode cX12_doesEnvy 41 = .ok (.goto 4, 3) := by decide +kernel
theorem dX12_doesEnvy_44 : decode cX12_doesEnvy 44 = .ok (.iconst 0, 1) := by decide +kernel
theorem dX12_doesEnvy_45 : decode cX12_doesEnvy 45 = .ok (.ireturn, 1) := by decide +kernel
theorem dX12_doesNeeds_0 : decode cX12_doesNeeds 0 = .ok (.iconst 0, 1) := by decide +kernel
theorem dX12_doesNeeds_1 : decode cX12_doesNeeds 1 = .ok (.istore_n 3, 1) := by decide +kernel
theorem dX12_doesNeeds_2 : decode cX12_doesNeeds 2 = .ok (.iconst 0, 1) := by decide +kernel
theorem dX12_doesNeeds_3 : decode cX12_doesNeeds 3 = .ok (.istore 4, 2) := by decide +kernel
theorem dX12_doesNeeds_5 : decode cX12_doesNeeds 5 = .ok (.iload 4, 2) := by decide +kernel
theorem dX12_doesNeeds_7 : decode cX12_doesNeeds 7 = .ok (.aload_n 0, 1) := by decide +kernel
theorem dX12_doesNeeds_8 : decode cX12_doesNeeds 8 = .ok (.getfield 324, 3) := by decide +kernel
theorem dX12_doesNeeds_11 : decode cX12_doesNeeds 11 = .ok (.if_icmp .ge 72, 3) := by decide +kernel
theorem dX12_doesNeeds_14 : decode cX12_doesNeeds 14 = .ok (.aload_n 0, 1) := by decide +kernel
theorem dX12_doesNeeds_15 : decode cX12_doesNeeds 15 = .ok (.iload 4, 2) := by decide +kernel
theorem dX12_doesNeeds_17 : decode cX12_doesNeeds 17 = .ok (.iconst 1, 1) := by decide +kernel
theorem dX12_doesNeeds_18 : decode cX12_doesNeeds 18 = .ok (.invokevirtual 356, 3) := by decide +kernel
theorem dX12_doesNeeds_21 : decode cX12_doesNeeds 21 = .ok (.iload_n 1, 1) := by decide +kernel
theorem dX12_doesNeeds_22 : decode cX12_doesNeeds 22 = .ok (.if_icmp .ne 55, 3) := by decide +kernel
theorem dX12_doesNeeds_25 : decode cX12_doesNeeds 25 = .ok (.aload_n 0, 1) := by decide +kernel
theorem dX12_doesNeeds_26 : decode cX12_doesNeeds 26 = .ok (.iload 4, 2) := by decide +kernel
theorem dX12_doesNeeds_28 : decode cX12_doesNeeds 28 = .ok (.invokevirtual 359, 3) := by decide +kernel
theorem dX12_doesNeeds_31 : decode cX12_doesNeeds 31 = .ok (.ifCond .eq 46, 3) := by decide +kernel
theorem dX12_doesNeeds_34 : decode cX12_doesNeeds 34 = .ok (.aload_n 0, 1) := by decide +kernel
theorem dX12_doesNeeds_35 : decode cX12_doesNeeds 35 = .ok (.iload 4, 2) := by decide +kernel
theorem dX12_doesNeeds_37 : decode cX12_doesNeeds 37 = .ok (.iconst 0, 1) := by decide +kernel
theorem dX12_doesNeeds_38 : decode cX12_doesNeeds 38 = .ok (.invokevirtual 356, 3) := by decide +kernel
theorem dX12_doesNeeds_41 : decode cX12_doesNeeds 41 = .ok (.iconst 3, 1) := by decide +kernel
theorem dX12_doesNeeds_42 : decode cX12_doesNeeds 42 = .ok (.if_icmp .ne 10, 3) := by decide +kernel
theorem dX12_doesNeeds_45 : decode cX12_doesNeeds 45 = .ok (.iload_n 2, 1) := by decide +kernel
theorem dX12_doesNeeds_46 : decode cX12_doesNeeds 46 = .ok (.ifCond .ne 6, 3) := by decide +kernel
theorem dX12_doesNeeds_49 : decode cX12_doesNeeds 49 = .ok (.goto 28, 3) := by decide +kernel
theorem dX12_doesNeeds_52 : decode cX12_doesNeeds 52 = .ok (.aload_n 0, 1) := by decide +kernel
theorem dX12_doesNeeds_53 : decode cX12_doesNeeds 53 = .ok (.getfield 7, 3) := by decide +kernel
theorem dX12_doesNeeds_56 : decode cX12_doesNeeds 56 = .ok (.bipush 46, 2) := by decide +kernel
theorem dX12_doesNeeds_58 : decode cX12_doesNeeds 58 = .ok (.iload 4, 2) := by decide +kernel
theorem dX12_doesNeeds_60 : decode cX12_doesNeeds 60 = .ok (.iadd, 1) := by decide +kernel
theorem dX12_doesNeeds_61 : decode cX12_doesNeeds 61 = .ok (.aload_n 0, 1) := by decide +kernel
theorem dX12_doesNeeds_62 : decode cX12_doesNeeds 62 = .ok (.getfield 7, 3) := by decide +kernel
theorem dX12_doesNeeds_65 : decode cX12_doesNeeds 65 = .ok (.iconst 0, 1) := by decide +kernel
theorem dX12_doesNeeds_66 : decode cX12_doesNeeds 66 = .ok (.iaload, 1) := by decide +kernel
theorem dX12_doesNeeds_67 : decode cX12_doesNeeds 67 = .ok (.iconst 1, 1) := by decide +kernel
theorem dX12_doesNeeds_68 : decode cX12_doesNeeds 68 = .ok (.iadd, 1) := by decide +kernel
theorem dX12_doesNeeds_69 : decode cX12_doesNeeds 69 = .ok (.iastore, 1) := by decide +kernel
theorem dX12_doesNeeds_70 : decode cX12_doesNeeds 70 = .ok (.iload_n 3, 1) := by decide +kernel
theorem dX12_doesNeeds_71 : decode cX12_doesNeeds 71 = .ok (.iconst 1, 1) := by decide +kernel
theorem dX12_doesNeeds_72 : decode cX12_doesNeeds 72 = .ok (.iload 4, 2) := by decide +kernel
theorem dX12_doesNeeds_74 : decode cX12_doesNeeds 74 = .ok (.ishl, 1) := by decide +kernel
theorem dX12_doesNeeds_75 : decode cX12_doesNeeds 75 = .ok (.ior, 1) := by decide +kernel
theorem dX12_doesNeeds_76 : decode cX12_doesNeeds 76 = .ok (.istore_n 3, 1) := by decide +kernel
theorem dX12_doesNeeds_77 : decode cX12_doesNeeds 77 = .ok (.iinc 4 1, 3) := by decide +kernel
theorem dX12_doesNeeds_80 : decode cX12_doesNeeds 80 = .ok (.goto (-75), 3) := by decide +kernel
theorem dX12_doesNeeds_83 : decode cX12_doesNeeds 83 = .ok (.iload_n 3, 1) := by decide +kernel
theorem dX12_doesNeeds_84 : decode cX12_doesNeeds 84 = .ok (.ireturn, 1) := by decide +kernel
theorem dX12_doesSee_0 : decode cX12_doesSee 0 = .ok (.aload_n 0, 1) := by decide +kernel
theorem dX12_doesSee_1 : decode cX12_doesSee 1 = .ok (.aload_n 0, 1) := by decide +kernel
theorem dX12_doesSee_2 : decode cX12_doesSee 2 = .ok (.getfield 19, 3) := by decide +kernel
theorem dX12_doesSee_5 : decode cX12_doesSee 5 = .ok (.iload_n 1, 1) := by decide +kernel
theorem dX12_doesSee_6 : decode cX12_doesSee 6 = .ok (.iaload, 1) := by decide +kernel
theorem dX12_doesSee_7 : decode cX12_doesSee 7 = .ok (.bipush 8, 2) := by decide +kernel
theorem dX12_doesSee_9 : decode cX12_doesSee 9 = .ok (.irem, 1) := by decide +kernel
theorem dX12_doesSee_10 : decode cX12_doesSee 10 = .ok (.aload_n 0, 1) := by decide +kernel
theorem dX12_doesSee_11 : decode cX12_doesSee 11 = .ok (.getfield 19, 3) := by decide +kernel
theorem dX12_doesSee_14 : decode cX12_doesSee 14 = .ok (.iload_n 2, 1) := by decide +kernel
theorem dX12_doesSee_15 : decode cX12_doesSee 15 = .ok (.iaload, 1) := by decide +kernel
theorem dX12_doesSee_16 : decode cX12_doesSee 16 = .ok (.bipush 8, 2) := by decide +kernel
theorem dX12_doesSee_18 : decode cX12_doesSee 18 = .ok (.irem, 1) := by decide +kernel
theorem dX12_doesSee_19 : decode cX12_doesSee 19 = .ok (.isub, 1) := by decide +kernel
theorem dX12_doesSee_20 : decode cX12_doesSee 20 = .ok (.invokevirtual 425, 3) := by decide +kernel
theorem dX12_doesSee_23 : decode cX12_doesSee 23 = .ok (.aload_n 0, 1) := by decide +kernel
theorem dX12_doesSee_24 : decode cX12_doesSee 24 = .ok (.aload_n 0, 1) := by decide +kernel
theorem dX12_doesSee_25 : decode cX12_doesSee 25 = .ok (.getfield 19, 3) := by decide +kernel
theorem dX12_doesSee_28 : decode cX12_doesSee 28 = .ok (.iload_n 1, 1) := by decide +kernel
theorem dX12_doesSee_29 : decode cX12_doesSee 29 = .ok (.iaload, 1) := by decide +kernel
theorem dX12_doesSee_30 : decode cX12_doesSee 30 = .ok (.bipush 8, 2) := by decide +kernel
theorem dX12_doesSee_32 : decode cX12_doesSee 32 = .ok (.idiv, 1) := by decide +kernel
theorem dX12_doesSee_33 : decode cX12_doesSee 33 = .ok (.aload_n 0, 1) := by decide +kernel
theorem dX12_doesSee_34 : decode cX12_doesSee 34 = .ok (.getfield 19, 3) := by decide +kernel
theorem dX12_doesSee_37 : decode cX12_doesSee 37 = .ok (.iload_n 2, 1) := by decide +kernel
theorem dX12_doesSee_38 : decode cX12_doesSee 38 = .ok (.iaload, 1) := by decide +kernel
theorem dX12_doesSee_39 : decode cX12_doesSee 39 = .ok (.bipush 8, 2) := by decide +kernel
theorem dX12_doesSee_41 : decode cX12_doesSee 41 = .ok (.idiv, 1) := by decide +kernel
theorem dX12_doesSee_42 : decode cX12_doesSee 42 = .ok (.isub, 1) := by decide +kernel
theorem dX12_doesSee_43 : decode cX12_doesSee 43 = .ok (.invokevirtual 425, 3) := by decide +kernel
theorem dX12_doesSee_46 : decode cX12_doesSee 46 = .ok (.iadd, 1) := by decide +kernel
theorem dX12_doesSee_47 : decode cX12_doesSee 47 = .ok (.istore_n 3, 1) := by decide +kernel
theorem dX12_doesSee_48 : decode cX12_doesSee 48 = .ok (.iload_n 1, 1) := by decide +kernel
theorem dX12_doesSee_49 : decode cX12_doesSee 49 = .ok (.iload_n 2, 1) := by decide +kernel
theorem dX12_doesSee_50 : decode cX12_doesSee 50 = .ok (.if_icmp .eq 8, 3) := by decide +kernel
theorem dX12_doesSee_53 : decode cX12_doesSee 53 = .ok (.iload_n 3, 1) := by decide +kernel
theorem dX12_doesSee_54 : decode cX12_doesSee 54 = .ok (.iconst 5, 1) := by decide +kernel
theorem dX12_doesSee_55 : decode cX12_doesSee 55 = .ok (.if_icmp .le 5, 3) := by decide +kernel
theorem dX12_doesSee_58 : decode cX12_doesSee 58 = .ok (.iconst 0, 1) := by decide +kernel
theorem dX12_doesSee_59 : decode cX12_doesSee 59 = .ok (.ireturn, 1) := by decide +kernel
theorem dX12_doesSee_60 : decode cX12_doesSee 60 = .ok (.iconst 0, 1) := by decide +kernel
theorem dX12_doesSee_61 : decode cX12_doesSee 61 = .ok (.istore 4, 2) := by decide +kernel
theorem dX12_doesSee_63 : decode cX12_doesSee 63 = .ok (.iload 4, 2) := by decide +kernel
theorem dX12_doesSee_65 : decode cX12_doesSee 65 = .ok (.aload_n 0, 1) := by decide +kernel
theorem dX12_doesSee_66 : decode cX12_doesSee 66 = .ok (.getfield 148, 3) := by decide +kernel
theorem dX12_doesSee_69 : decode cX12_doesSee 69 = .ok (.if_icmp .ge 49, 3) := by decide +kernel
theorem dX12_doesSee_72 : decode cX12_doesSee 72 = .ok (.iload 4, 2) := by decide +kernel
theorem dX12_doesSee_74 : decode cX12_doesSee 74 = .ok (.iload_n 1, 1) := by decide +kernel
theorem dX12_doesSee_75 : decode cX12_doesSee 75 = .ok (.if_icmp .eq 37, 3) := by decide +kernel
theorem dX12_doesSee_78 : decode cX12_doesSee 78 = .ok (.iload 4, 2) := by decide +kernel
theorem dX12_doesSee_80 : decode cX12_doesSee 80 = .ok (.iload_n 2, 1) := by decide +kernel
theorem dX12_doesSee_81 : decode cX12_doesSee 81 = .ok (.if_icmp .eq 31, 3) := by decide +kernel
theorem dX12_doesSee_84 : decode cX12_doesSee 84 = .ok (.aload_n 0, 1) := by decide +kernel
theorem dX12_doesSee_85 : decode cX12_doesSee 85 = .ok (.aload_n 0, 1) := by decide +kernel
theorem dX12_doesSee_86 : decode cX12_doesSee 86 = .ok (.getfield 19, 3) := by decide +kernel
theorem dX12_doesSee_89 : decode cX12_doesSee 89 = .ok (.iload 4, 2) := by decide +kernel
theorem dX12_doesSee_91 : decode cX12_doesSee 91 = .ok (.iaload, 1) := by decide +kernel
theorem dX12_doesSee_92 : decode cX12_doesSee 92 = .ok (.aload_n 0, 1) := by decide +kernel
theorem dX12_doesSee_93 : decode cX12_doesSee 93 = .ok (.getfield 19, 3) := by decide +kernel
theorem dX12_doesSee_96 : decode cX12_doesSee 96 = .ok (.iload_n 1, 1) := by decide +kernel
theorem dX12_doesSee_97 : decode cX12_doesSee 97 = .ok (.iaload, 1) := by decide +kernel
theorem dX12_doesSee_98 : decode cX12_doesSee 98 = .ok (.aload_n 0, 1) := by decide +kernel
theorem dX12_doesSee_99 : decode cX12_doesSee 99 = .ok (.getfield 19, 3) := by decide +kernel
theorem dX12_doesSee_102 : decode cX12_doesSee 102 = .ok (.iload_n 2, 1) := by decide +kernel
theorem dX12_doesSee_103 : decode cX12_doesSee 103 = .ok (.iaload, 1) := by decide +kernel
theorem dX12_doesSee_104 : decode cX12_doesSee 104 = .ok (.invokevirtual 428, 3) := by decide +kernel
theorem dX12_doesSee_107 : decode cX12_doesSee 107 = .ok (.ifCond .eq 5, 3) := by decide +kernel
theorem dX12_doesSee_110 : decode cX12_doesSee 110 = .ok (.iconst 0, 1) := by decide +kernel
theorem dX12_doesSee_111 : decode cX12_doesSee 111 = .ok (.ireturn, 1) := by decide +kernel
theorem dX12_doesSee_112 : decode cX12_doesSee 112 = .ok (.iinc 4 1, 3) := by decide +kernel
theorem dX12_doesSee_115 : decode cX12_doesSee 115 = .ok (.goto (-52), 3) := by decide +kernel
theorem dX12_doesSee_118 : decode cX12_doesSee 118 = .ok (.iconst 1, 1) := by decide +kernel
theorem dX12_doesSee_119 : decode cX12_doesSee 119 = .ok (.ireturn, 1) := by decide +kernel
theorem dX12_draw_0 : decode cX12_draw 0 = .ok (.aload_n 0, 1) := by decide +kernel
theorem dX12_draw_1 : decode cX12_draw 1 = .ok (.getfield 7, 3) := by decide +kernel
theorem dX12_draw_4 : decode cX12_draw 4 = .ok (.iconst 1, 1) := by decide +kernel
theorem dX12_draw_5 : decode cX12_draw 5 = .ok (.ldc 140, 2) := by decide +kernel
theorem dX12_draw_7 : decode cX12_draw 7 = .ok (.aload_n 0, 1) := by decide +kernel
theorem dX12_draw_8 : decode cX12_draw 8 = .ok (.getfield 7, 3) := by decide +kernel
theorem dX12_draw_11 : decode cX12_draw 11 = .ok (.iconst 1, 1) := by decide +kernel
theorem dX12_draw_12 : decode cX12_draw 12 = .ok (.iaload, 1) := by decide +kernel
theorem dX12_draw_13 : decode cX12_draw 13 = .ok (.imul, 1) := by decide +kernel
theorem dX12_draw_14 : decode cX12_draw 14 = .ok (.ldc 141, 2) := by decide +kernel
theorem dX12_draw_16 : decode cX12_draw 16 = .ok (.iadd, 1) := by decide +kernel
theorem dX12_draw_17 : decode cX12_draw 17 = .ok (.iastore, 1) := by decide +kernel
theorem dX12_draw_18 : decode cX12_draw 18 = .ok (.aload_n 0, 1) := by decide +kernel
theorem dX12_draw_19 : decode cX12_draw 19 = .ok (.getfield 7, 3) := by decide +kernel
theorem dX12_draw_22 : decode cX12_draw 22 = .ok (.iconst 1, 1) := by decide +kernel
theorem dX12_draw_23 : decode cX12_draw 23 = .ok (.iaload, 1) := by decide +kernel
theorem dX12_draw_24 : decode cX12_draw 24 = .ok (.bipush 8, 2) := by decide +kernel
theorem dX12_draw_26 : decode cX12_draw 26 = .ok (.iushr, 1) := by decide +kernel
theorem dX12_draw_27 : decode cX12_draw 27 = .ok (.iload_n 1, 1) := by decide +kernel
theorem dX12_draw_28 : decode cX12_draw 28 = .ok (.irem, 1) := by decide +kernel
theorem dX12_draw_29 : decode cX12_draw 29 = .ok (.ireturn, 1) := by decide +kernel
theorem dX12_due_0 : decode cX12_due 0 = .ok (.aload_n 0, 1) := by decide +kernel
theorem dX12_due_1 : decode cX12_due 1 = .ok (.getfield 145, 3) := by decide +kernel
theorem dX12_due_4 : decode cX12_due 4 = .ok (.bipush 30, 2) := by decide +kernel
theorem dX12_due_6 : decode cX12_due 6 = .ok (.iadd, 1) := by decide +kernel
theorem dX12_due_7 : decode cX12_due 7 = .ok (.ireturn, 1) := by decide +kernel
theorem dX12_dusk_0 : decode cX12_dusk 0 = .ok (.aload_n 0, 1) := by decide +kernel
theorem dX12_dusk_1 : decode cX12_dusk 1 = .ok (.getfield 142, 3) := by decide +kernel
theorem dX12_dusk_4 : decode cX12_dusk 4 = .ok (.bipush 20, 2) := by decide +kernel
theorem dX12_dusk_6 : decode cX12_dusk 6 = .ok (.iadd, 1) := by decide +kernel
theorem dX12_dusk_7 : decode cX12_dusk 7 = .ok (.ireturn, 1) := by decide +kernel
theorem dX12_emits_0 : decode cX12_emits 0 = .ok (.aload_n 0, 1) := by decide +kernel
theorem dX12_emits_1 : decode cX12_emits 1 = .ok (.getfield 61, 3) := by decide +kernel
theorem dX12_emits_4 : decode cX12_emits 4 = .ok (.sipush 800, 3) := by decide +kernel
theorem dX12_emits_7 : decode cX12_emits 7 = .ok (.aload_n 0, 1) := by decide +kernel
theorem dX12_emits_8 : decode cX12_emits 8 = .ok (.getfield 213, 3) := by decide +kernel
theorem dX12_emits_11 : decode cX12_emits 11 = .ok (.iadd, 1) := by decide +kernel
theorem dX12_emits_12 : decode cX12_emits 12 = .ok (.iload_n 1, 1) := by decide +kernel
theorem dX12_emits_13 : decode cX12_emits 13 = .ok (.iastore, 1) := by decide +kernel
theorem dX12_emits_14 : decode cX12_emits 14 = .ok (.aload_n 0, 1) := by decide +kernel
theorem dX12_emits_15 : decode cX12_emits 15 = .ok (.getfield 64, 3) := by decide +kernel
theorem dX12_emits_18 : decode cX12_emits 18 = .ok (.sipush 800, 3) := by decide +kernel
theorem dX12_emits_21 : decode cX12_emits 21 = .ok (.aload_n 0, 1) := by decide +kernel
theorem dX12_emits_22 : decode cX12_emits 22 = .ok (.getfield 213, 3) := by decide +kernel
theorem dX12_emits_25 : decode cX12_emits 25 = .ok (.iadd, 1) := by decide +kernel
theorem dX12_emits_26 : decode cX12_emits 26 = .ok (.iload_n 2, 1) := by decide +kernel
theorem dX12_emits_27 : decode cX12_emits 27 = .ok (.iastore, 1) := by decide +kernel
theorem dX12_emits_28 : decode cX12_emits 28 = .ok (.aload_n 0, 1) := by decide +kernel
theorem dX12_emits_29 : decode cX12_emits 29 = .ok (.aload_n 0, 1) := by decide +kernel
theorem dX12_emits_30 : decode cX12_emits 30 = .ok (.getfield 213, 3) := by decide +kernel
theorem dX12_emits_33 : decode cX12_emits 33 = .ok (.iconst 1, 1) := by decide +kernel
theorem dX12_emits_34 : decode cX12_emits 34 = .ok (.iadd, 1) := by decide +kernel
theorem dX12_emits_35 : decode cX12_emits 35 = .ok (.putfield 213, 3) := by decide +kernel
theorem dX12_emits_38 : decode cX12_emits 38 = .ok (.return_, 1) := by decide +kernel
theorem dX12_end_0 : decode cX12_end 0 = .ok (.aload_n 0, 1) := by decide +kernel
theorem dX12_end_1 : decode cX12_end 1 = .ok (.iconst 0, 1) := by decide +kernel
theorem dX12_end_2 : decode cX12_end 2 = .ok (.putfield 130, 3) := by decide +kernel
theorem dX12_end_5 : decode cX12_end 5 = .ok (.aload_n 0, 1) := by decide +kernel
theorem dX12_end_6 : decode cX12_end 6 = .ok (.iload_n 1, 1) := by decide +kernel
theorem dX12_end_7 : decode cX12_end 7 = .ok (.iconst 0, 1) := by decide +kernel
theorem dX12_end_8 : decode cX12_end 8 = .ok (.aload_n 0, 1) := by decide +kernel
theorem dX12_end_9 : decode cX12_end 9 = .ok (.getfield 172, 3) := by decide +kernel
theorem dX12_end_12 : decode cX12_end 12 = .ok (.invokevirtual 151, 3) := by decide +kernel
theorem dX12_end_15 : decode cX12_end 15 = .ok (.ifCond .ne 5, 3) := by decide +kernel
theorem dX12_end_18 : decode cX12_end 18 = .ok (.iconst 0, 1) := by decide +kernel
theorem dX12_end_19 : decode cX12_end 19 = .ok (.ireturn, 1) := by decide +kernel
theorem dX12_end_20 : decode cX12_end 20 = .ok (.aload_n 0, 1) := by decide +kernel
theorem dX12_end_21 : decode cX12_end 21 = .ok (.iload_n 1, 1) := by decide +kernel
theorem dX12_end_22 : decode cX12_end 22 = .ok (.putfield 172, 3) := by decide +kernel
theorem dX12_end_25 : decode cX12_end 25 = .ok (.iconst 1, 1) := by decide +kernel
theorem dX12_end_26 : decode cX12_end 26 = .ok (.ireturn, 1) := by decide +kernel
theorem dX12_endsThought_0 : decode cX12_endsThought 0 = .ok (.iconst 0, 1) := by decide +kernel
theorem dX12_endsThought_1 : decode cX12_endsThought 1 = .ok (.istore_n 1, 1) := by decide +kernel
theorem dX12_endsThought_2 : decode cX12_endsThought 2 = .ok (.iload_n 1, 1) := by decide +kernel
theorem dX12_endsThought_3 : decode cX12_endsThought 3 = .ok (.bipush 66, 2) := by decide +kernel
theorem dX12_endsThought_5 : decode cX12_endsThought 5 = .ok (.if_icmp .ge 21, 3) := by decide +kernel
theorem dX12_endsThought_8 : decode cX12_endsThought 8 = .ok (.aload_n 0, 1) := by decide +kernel
theorem dX12_endsThought_9 : decode cX12_endsThought 9 = .ok (.getfield 7, 3) := by decide +kernel
theorem dX12_endsThought_12 : decode cX12_endsThought 12 = .ok (.iload_n 1, 1) := by decide +kernel
theorem dX12_endsThought_13 : decode cX12_endsThought 13 = .ok (.aload_n 0, 1) := by decide +kernel
theorem dX12_endsThought_14 : decode cX12_endsThought 14 = .ok (.getfield 16, 3) := by decide +kernel
theorem dX12_endsThought_17 : decode cX12_endsThought 17 = .ok (.iload_n 1, 1) := by decide +kernel
theorem dX12_endsThought_18 : decode cX12_endsThought 18 = .ok (.iaload, 1) := by decide +kernel
theorem dX12_endsThought_19 : decode cX12_endsThought 19 = .ok (.iastore, 1) := by decide +kernel
theorem dX12_endsThought_20 : decode cX12_endsThought 20 = .ok (.iinc 1 1, 3) := by decide +kernel
theorem dX12_endsThought_23 : decode cX12_endsThought 23 = .ok (.goto (-21), 3) := by decide +kernel
theorem dX12_endsThought_26 : decode cX12_endsThought 26 = .ok (.aload_n 0, 1) := by decide +kernel
theorem dX12_endsThought_27 : decode cX12_endsThought 27 = .ok (.iconst 0, 1) := by decide +kernel
theorem dX12_endsThought_28 : decode cX12_endsThought 28 = .ok (.putfield 136, 3) := by decide +kernel
theorem dX12_endsThought_31 : decode cX12_endsThought 31 = .ok (.return_, 1) := by decide +kernel
theorem dX12_enviedBy_0 : decode cX12_enviedBy 0 = .ok (.iconst 0, 1) := by decide +kernel
theorem dX12_enviedBy_1 : decode cX12_enviedBy 1 = .ok (.istore_n 2, 1) := by decide +kernel
theorem dX12_enviedBy_2 : decode cX12_enviedBy 2 = .ok (.iconst 0, 1) := by decide +kernel
theorem dX12_enviedBy_3 : decode cX12_enviedBy 3 = .ok (.istore_n 3, 1) := by decide +kernel
theorem dX12_enviedBy_4 : decode cX12_enviedBy 4 = .ok (.iload_n 3, 1) := by decide +kernel
theorem dX12_enviedBy_5 : decode cX12_enviedBy 5 = .ok (.aload_n 0, 1) := by decide +kernel
theorem dX12_enviedBy_6 : decode cX12_enviedBy 6 = .ok (.getfield 148, 3) := by decide +kernel
theorem dX12_enviedBy_9 : decode cX12_enviedBy 9 = .ok (.if_icmp .ge 24, 3) := by decide +kernel
theorem dX12_enviedBy_12 : decode cX12_enviedBy 12 = .ok (.aload_n 0, 1) := by decide +kernel
theorem dX12_enviedBy_13 : decode cX12_enviedBy 13 = .ok (.iload_n 1, 1) := by decide +kernel
theorem dX12_enviedBy_14 : decode cX12_enviedBy 14 = .ok (.iload_n 3, 1) := by decide +kernel
theorem dX12_enviedBy_15 : decode cX12_enviedBy 15 = .ok (.invokevirtual 422, 3) := by decide +kernel
theorem dX12_enviedBy_18 : decode cX12_enviedBy 18 = .ok (.ifCond .eq 9, 3) := by decide +kernel
theorem dX12_enviedBy_21 : decode cX12_enviedBy 21 = .ok (.iload_n 2, 1) := by decide +kernel
theorem dX12_enviedBy_22 : decode cX12_enviedBy 22 = .ok (.iconst 1, 1) := by decide +kernel
theorem dX12_enviedBy_23 : decode cX12_enviedBy 23 = .ok (.iload_n 3, 1) := by decide +kernel
theorem dX12_enviedBy_24 : decode cX12_enviedBy 24 = .ok (.ishl, 1) := by decide +kernel
theorem dX12_enviedBy_25 : decode cX12_enviedBy 25 = .ok (.ior, 1) := by decide +kernel
theorem dX12_enviedBy_26 : decode cX12_enviedBy 26 = .ok (.istore_n 2, 1) := by decide +kernel
theorem dX12_enviedBy_27 : decode cX12_enviedBy 27 = .ok (.iinc 3 1, 3) := by decide +kernel
theorem dX12_enviedBy_30 : decode cX12_enviedBy 30 = .ok (.goto (-26), 3) := by decide +kernel
theorem dX12_enviedBy_33 : decode cX12_enviedBy 33 = .ok (.iload_n 2, 1) := by decide +kernel
theorem dX12_enviedBy_34 : decode cX12_enviedBy 34 = .ok (.ireturn, 1) := by decide +kernel
theorem dX12_errs_0 : decode cX12_errs 0 = .ok (.aload_n 0, 1) := by decide +kernel
theorem dX12_errs_1 : decode cX12_errs 1 = .ok (.iload_n 1, 1) := by decide +kernel
theorem dX12_errs_2 : decode cX12_errs 2 = .ok (.putfield 207, 3) := by decide +kernel
theorem dX12_errs_5 : decode cX12_errs 5 = .ok (.aload_n 0, 1) := by decide +kernel
theorem dX12_errs_6 : decode cX12_errs 6 = .ok (.aload_n 0, 1) := by decide +kernel
theorem dX12_errs_7 : decode cX12_errs 7 = .ok (.getfield 185, 3) := by decide +kernel
theorem dX12_errs_10 : decode cX12_errs 10 = .ok (.putfield 210, 3) := by decide +kernel
theorem dX12_errs_13 : decode cX12_errs 13 = .ok (.iconst (-1), 1) := by decide +kernel
theorem dX12_errs_14 : decode cX12_errs 14 = .ok (.ireturn, 1) := by decide +kernel
theorem dX12_far_0 : decode cX12_far 0 = .ok (.aload_n 0, 1) := by decide +kernel
theorem dX12_far_1 : decode cX12_far 1 = .ok (.iconst 0, 1) := by decide +kernel
theorem dX12_far_2 : decode cX12_far 2 = .ok (.putfield 130, 3) := by decide +kernel
theorem dX12_far_5 : decode cX12_far 5 = .ok (.aload_n 0, 1) := by decide +kernel
theorem dX12_far_6 : decode cX12_far 6 = .ok (.iload_n 1, 1) := by decide +kernel
theorem dX12_far_7 : decode cX12_far 7 = .ok (.invokevirtual 155, 3) := by decide +kernel
theorem dX12_far_10 : decode cX12_far 10 = .ok (.ifCond .eq 11, 3) := by decide +kernel
theorem dX12_far_13 : decode cX12_far 13 = .ok (.aload_n 0, 1) := by decide +kernel
theorem dX12_far_14 : decode cX12_far 14 = .ok (.iload_n 2, 1) := by decide +kernel
theorem dX12_far_15 : decode cX12_far 15 = .ok (.invokevirtual 155, 3) := by decide +kernel
theorem dX12_far_18 : decode cX12_far 18 = .ok (.ifCond .ne 5, 3) := by decide +kernel
theorem dX12_far_21 : decode cX12_far 21 = .ok (.iconst (-1), 1) := by decide +kernel
theorem dX12_far_22 : decode cX12_far 22 = .ok (.ireturn, 1) := by decide +kernel
theorem dX12_far_23 : decode cX12_far 23 = .ok (.aload_n 0, 1) := by decide +kernel
theorem dX12_far_24 : decode cX12_far 24 = .ok (.aload_n 0, 1) := by decide +kernel
theorem dX12_far_25 : decode cX12_far 25 = .ok (.getfield 7, 3) := by decide +kernel
theorem dX12_far_28 : decode cX12_far 28 = .ok (.iconst 4, 1) := by decide +kernel
theorem dX12_far_29 : decode cX12_far 29 = .ok (.iaload, 1) := by decide +kernel
theorem dX12_far_30 : decode cX12_far 30 = .ok (.invokevirtual 353, 3) := by decide +kernel
theorem dX12_far_33 : decode cX12_far 33 = .ok (.aload_n 0, 1) := by decide +kernel
theorem dX12_far_34 : decode cX12_far 34 = .ok (.getfield 101, 3) := by decide +kernel
theorem dX12_far_37 : decode cX12_far 37 = .ok (.bipush 10, 2) := by decide +kernel
theorem dX12_far_39 : decode cX12_far 39 = .ok (.iload_n 1, 1) := by decide +kernel
theorem dX12_far_40 : decode cX12_far 40 = .ok (.imul, 1) := by decide +kernel
theorem dX12_far_41 : decode cX12_far 41 = .ok (.iload_n 2, 1) := by decide +kernel
theorem dX12_far_42 : decode cX12_far 42 = .ok (.iadd, 1) := by decide +kernel
theorem dX12_far_43 : decode cX12_far 43 = .ok (.iaload, 1) := by decide +kernel
theorem dX12_far_44 : decode cX12_far 44 = .ok (.ldc_w 349, 3) := by decide +kernel
theorem dX12_far_47 : decode cX12_far 47 = .ok (.if_icmp .lt 7, 3) := by decide +kernel
theorem dX12_far_50 : decode cX12_far 50 = .ok (.iconst (-1), 1) := by decide +kernel
theorem dX12_far_51 : decode cX12_far 51 = .ok (.goto 14, 3) := by decide +kernel
theorem dX12_far_54 : decode cX12_far 54 = .ok (.aload_n 0, 1) := by decide +kernel
theorem dX12_far_55 : decode cX12_far 55 = .ok (.getfield 101, 3) := by decide +kernel
theorem dX12_far_58 : decode cX12_far 58 = .ok (.bipush 10, 2) := by decide +kernel
theorem dX12_far_60 : decode cX12_far 60 = .ok (.iload_n 1, 1) := by decide +kernel
theorem dX12_far_61 : decode cX12_far 61 = .ok (.imul, 1) := by decide +kernel
theorem dX12_far_62 : decode cX12_far 62 = .ok (.iload_n 2, 1) := by decide +kernel
theorem dX12_far_63 : decode cX12_far 63 = .ok (.iadd, 1) := by decide +kernel
theorem dX12_far_64 : decode cX12_far 64 = .ok (.iaload, 1) := by decide +kernel
theorem dX12_far_65 : decode cX12_far 65 = .ok (.ireturn, 1) := by decide +kernel
theorem dX12_fault_0 : decode cX12_fault 0 = .ok (.aload_n 0, 1) := by decide +kernel
theorem dX12_fault_1 : decode cX12_fault 1 = .ok (.iconst 0, 1) := by decide +kernel
theorem dX12_fault_2 : decode cX12_fault 2 = .ok (.putfield 130, 3) := by decide +kernel
theorem dX12_fault_5 : decode cX12_fault 5 = .ok (.iload_n 1, 1) := by decide +kernel
theorem dX12_fault_6 : decode cX12_fault 6 = .ok (.ifCond .ne 10, 3) := by decide +kernel
theorem dX12_fault_9 : decode cX12_fault 9 = .ok (.aload_n 0, 1) := by decide +kernel
theorem dX12_fault_10 : decode cX12_fault 10 = .ok (.getfield 330, 3) := by decide +kernel
theorem dX12_fault_13 : decode cX12_fault 13 = .ok (.goto 16, 3) := by decide +kernel
theorem dX12_fault_16 : decode cX12_fault 16 = .ok (.iload_n 1, 1) := by decide +kernel
theorem dX12_fault_17 : decode cX12_fault 17 = .ok (.iconst 1, 1) := by decide +kernel
theorem dX12_fault_18 : decode cX12_fault 18 = .ok (.if_icmp .ne 10, 3) := by decide +kernel
theorem dX12_fault_21 : decode cX12_fault 21 = .ok (.aload_n 0, 1) := by decide +kernel
theorem dX12_fault_22 : decode cX12_fault 22 = .ok (.getfield 70, 3) := by decide +kernel
theorem dX12_fault_25 : decode cX12_fault 25 = .ok (.goto 4, 3) := by decide +kernel
theorem dX12_fault_28 : decode cX12_fault 28 = .ok (.iconst (-1), 1) := by decide +kernel
theorem dX12_fault_29 : decode cX12_fault 29 = .ok (.ireturn, 1) := by decide +kernel
theorem dX12_feed_0 : decode cX12_feed 0 = .ok (.aload_n 0, 1) := by decide +kernel
theorem dX12_feed_1 : decode cX12_feed 1 = .ok (.iconst 0, 1) := by decide +kernel
theorem dX12_feed_2 : decode cX12_feed 2 = .ok (.putfield 130, 3) := by decide +kernel
theorem dX12_feed_5 : decode cX12_feed 5 = .ok (.aload_n 0, 1) := by decide +kernel
theorem dX12_feed_6 : decode cX12_feed 6 = .ok (.getfield 172, 3) := by decide +kernel
theorem dX12_feed_9 : decode cX12_feed 9 = .ok (.sipush 380, 3) := by decide +kernel
theorem dX12_feed_12 : decode cX12_feed 12 = .ok (.if_icmp .le 5, 3) := by decide +kernel
theorem dX12_feed_15 : decode cX12_feed 15 = .ok (.iconst (-1), 1) := by decide +kernel
theorem dX12_feed_16 : decode cX12_feed 16 = .ok (.ireturn, 1) := by decide +kernel
theorem dX12_feed_17 : decode cX12_feed 17 = .ok (.aload_n 0, 1) := by decide +kernel
theorem dX12_feed_18 : decode cX12_feed 18 = .ok (.iload_n 1, 1) := by decide +kernel
theorem dX12_feed_19 : decode cX12_feed 19 = .ok (.invokevirtual 175, 3) := by decide +kernel
theorem dX12_feed_22 : decode cX12_feed 22 = .ok (.aload_n 0, 1) := by decide +kernel
theorem dX12_feed_23 : decode cX12_feed 23 = .ok (.iload_n 2, 1) := by decide +kernel
theorem dX12_feed_24 : decode cX12_feed 24 = .ok (.invokevirtual 175, 3) := by decide +kernel
theorem dX12_feed_27 : decode cX12_feed 27 = .ok (.aload_n 0, 1) := by decide +kernel
theorem dX12_feed_28 : decode cX12_feed 28 = .ok (.iload_n 3, 1) := by decide +kernel
theorem dX12_feed_29 : decode cX12_feed 29 = .ok (.invokevirtual 175, 3) := by decide +kernel
theorem dX12_feed_32 : decode cX12_feed 32 = .ok (.aload_n 0, 1) := by decide +kernel
theorem dX12_feed_33 : decode cX12_feed 33 = .ok (.iload 4, 2) := by decide +kernel
theorem dX12_feed_35 : decode cX12_feed 35 = .ok (.invokevirtual 175, 3) := by decide +kernel
theorem dX12_feed_38 : decode cX12_feed 38 = .ok (.aload_n 0, 1) := by decide +kernel
theorem dX12_feed_39 : decode cX12_feed 39 = .ok (.iload 5, 2) := by decide +kernel
theorem dX12_feed_41 : decode cX12_feed 41 = .ok (.invokevirtual 175, 3) := by decide +kernel
theorem dX12_feed_44 : decode cX12_feed 44 = .ok (.aload_n 0, 1) := by decide +kernel
theorem dX12_feed_45 : decode cX12_feed 45 = .ok (.getfield 172, 3) := by decide +kernel
theorem dX12_feed_48 : decode cX12_feed 48 = .ok (.ireturn, 1) := by decide +kernel
theorem dX12_findsChances_0 : decode cX12_findsChances 0 = .ok (.iconst 0, 1) := by decide +kernel
theorem dX12_findsChances_1 : decode cX12_findsChances 1 = .ok (.istore_n 2, 1) := by decide +kernel
theorem dX12_findsChances_2 : decode cX12_findsChances 2 = .ok (.iload_n 2, 1) := by decide +kernel
theorem dX12_findsChances_3 : decode cX12_findsChances 3 = .ok (.bipush 9, 2) := by decide +kernel
theorem dX12_findsChances_5 : decode cX12_findsChances 5 = .ok (.if_icmp .gt 32, 3) := by decide +kernel
theorem dX12_findsChances_8 : decode cX12_findsChances 8 = .ok (.aload_n 0, 1) := by decide +kernel
theorem dX12_findsChances_9 : decode cX12_findsChances 9 = .ok (.getfield 114, 3) := by decide +kernel
theorem dX12_findsChances_12 : decode cX12_findsChances 12 = .ok (.iload_n 2, 1) := by decide +kernel
theorem dX12_findsChances_13 : decode cX12_findsChances 13 = .ok (.iload_n 2, 1) := by decide +kernel
theorem dX12_findsChances_14 : decode cX12_findsChances 14 = .ok (.aload_n 0, 1) := by decide +kernel
theorem dX12_findsChances_15 : decode cX12_findsChances 15 = .ok (.getfield 7, 3) := by decide +kernel
theorem dX12_findsChances_18 : decode cX12_findsChances 18 = .ok (.iconst 4, 1) := by decide +kernel
theorem dX12_findsChances_19 : decode cX12_findsChances 19 = .ok (.iaload, 1) := by decide +kernel
theorem dX12_findsChances_20 : decode cX12_findsChances 20 = .ok (.if_icmp .ne 9, 3) := by decide +kernel
theorem dX12_findsChances_23 : decode cX12_findsChances 23 = .ok (.ldc_w 507, 3) := by decide +kernel
theorem dX12_findsChances_26 : decode cX12_findsChances 26 = .ok (.goto 4, 3) := by decide +kernel
theorem dX12_findsChances_29 : decode cX12_findsChances 29 = .ok (.iconst 0, 1) := by decide +kernel
theorem dX12_findsChances_30 : decode cX12_findsChances 30 = .ok (.iastore, 1) := by decide +kernel
theorem dX12_findsChances_31 : decode cX12_findsChances 31 = .ok (.iinc 2 1, 3) := by decide +kernel
theorem dX12_findsChances_34 : decode cX12_findsChances 34 = .ok (.goto (-32), 3) := by decide +kernel
theorem dX12_findsChances_37 : decode cX12_findsChances 37 = .ok (.iconst 0, 1) := by decide +kernel
theorem dX12_findsChances_38 : decode cX12_findsChances 38 = .ok (.istore_n 2, 1) := by decide +kernel
theorem dX12_findsChances_39 : decode cX12_findsChances 39 = .ok (.iload_n 2, 1) := by decide +kernel
theorem dX12_findsChances_40 : decode cX12_findsChances 40 = .ok (.iload_n 1, 1) := by decide +kernel
theorem dX12_findsChances_41 : decode cX12_findsChances 41 = .ok (.if_icmp .ge 20, 3) := by decide +kernel
theorem dX12_findsChances_44 : decode cX12_findsChances 44 = .ok (.aload_n 0, 1) := by decide +kernel
theorem dX12_findsChances_45 : decode cX12_findsChances 45 = .ok (.getfield 166, 3) := by decide +kernel
theorem dX12_findsChances_48 : decode cX12_findsChances 48 = .ok (.ifCond .le 13, 3) := by decide +kernel
theorem dX12_findsChances_51 : decode cX12_findsChances 51 = .ok (.aload_n 0, 1) := by decide +kernel
theorem dX12_findsChances_52 : decode cX12_findsChances 52 = .ok (.invokevirtual 508, 3) := by decide +kernel
theorem dX12_findsChances_55 : decode cX12_findsChances 55 = .ok (.iinc 2 1, 3) := by decide +kernel
theorem dX12_findsChances_58 : decode cX12_findsChances 58 = .ok (.goto (-19), 3) := by decide +kernel
theorem dX12_findsChances_61 : decode cX12_findsChances 61 = .ok (.return_, 1) := by decide +kernel
theorem dX12_findsFar_0 : decode cX12_findsFar 0 = .ok (.iconst 0, 1) := by decide +kernel
theorem dX12_findsFar_1 : decode cX12_findsFar 1 = .ok (.istore_n 2, 1) := by decide +kernel
theorem dX12_findsFar_2 : decode cX12_findsFar 2 = .ok (.iload_n 2, 1) := by decide +kernel
theorem dX12_findsFar_3 : decode cX12_findsFar 3 = .ok (.bipush 100, 2) := by decide +kernel
theorem dX12_findsFar_5 : decode cX12_findsFar 5 = .ok (.if_icmp .ge 33, 3) := by decide +kernel
theorem dX12_findsFar_8 : decode cX12_findsFar 8 = .ok (.aload_n 0, 1) := by decide +kernel
theorem dX12_findsFar_9 : decode cX12_findsFar 9 = .ok (.getfield 101, 3) := by decide +kernel
theorem dX12_findsFar_12 : decode cX12_findsFar 12 = .ok (.iload_n 2, 1) := by decide +kernel
theorem dX12_findsFar_13 : decode cX12_findsFar 13 = .ok (.iload_n 2, 1) := by decide +kernel
theorem dX12_findsFar_14 : decode cX12_findsFar 14 = .ok (.bipush 10, 2) := by decide +kernel
theorem dX12_findsFar_16 : decode cX12_findsFar 16 = .ok (.idiv, 1) := by decide +kernel
theorem dX12_findsFar_17 : decode cX12_findsFar 17 = .ok (.iload_n 2, 1) := by decide +kernel
theorem dX12_findsFar_18 : decode cX12_findsFar 18 = .ok (.bipush 10, 2) := by decide +kernel
theorem dX12_findsFar_20 : decode cX12_findsFar 20 = .ok (.irem, 1) := by decide +kernel
theorem dX12_findsFar_21 : decode cX12_findsFar 21 = .ok (.if_icmp .ne 7, 3) := by decide +kernel
theorem dX12_findsFar_24 : decode cX12_findsFar 24 = .ok (.iconst 0, 1) := by decide +kernel
theorem dX12_findsFar_25 : decode cX12_findsFar 25 = .ok (.goto 6, 3) := by decide +kernel
theorem dX12_findsFar_28 : decode cX12_findsFar 28 = .ok (.ldc_w 349, 3) := by decide +kernel
theorem dX12_findsFar_31 : decode cX12_findsFar 31 = .ok (.iastore, 1) := by decide +kernel
theorem dX12_findsFar_32 : decode cX12_findsFar 32 = .ok (.iinc 2 1, 3) := by decide +kernel
theorem dX12_findsFar_35 : decode cX12_findsFar 35 = .ok (.goto (-33), 3) := by decide +kernel
theorem dX12_findsFar_38 : decode cX12_findsFar 38 = .ok (.iconst 0, 1) := by decide +kernel
theorem dX12_findsFar_39 : decode cX12_findsFar 39 = .ok (.istore_n 2, 1) := by decide +kernel
theorem dX12_findsFar_40 : decode cX12_findsFar 40 = .ok (.iload_n 2, 1) := by decide +kernel
theorem dX12_findsFar_41 : decode cX12_findsFar 41 = .ok (.aload_n 0, 1) := by decide +kernel
theorem dX12_findsFar_42 : decode cX12_findsFar 42 = .ok (.getfield 321, 3) := by decide +kernel
theorem dX12_findsFar_45 : decode cX12_findsFar 45 = .ok (.if_icmp .ge 123, 3) := by decide +kernel
theorem dX12_findsFar_48 : decode cX12_findsFar 48 = .ok (.iconst 4, 1) := by decide +kernel
theorem dX12_findsFar_49 : decode cX12_findsFar 49 = .ok (.iload_n 2, 1) := by decide +kernel
theorem dX12_findsFar_50 : decode cX12_findsFar 50 = .ok (.imul, 1) := by decide +kernel
theorem dX12_findsFar_51 : decode cX12_findsFar 51 = .ok (.istore_n 3, 1) := by decide +kernel
theorem dX12_findsFar_52 : decode cX12_findsFar 52 = .ok (.iload_n 1, 1) := by decide +kernel
theorem dX12_findsFar_53 : decode cX12_findsFar 53 = .ok (.aload_n 0, 1) := by decide +kernel
theorem dX12_findsFar_54 : decode cX12_findsFar 54 = .ok (.getfield 74, 3) := by decide +kernel
theorem dX12_findsFar_57 : decode cX12_findsFar 57 = .ok (.iload_n 3, 1) := by decide +kernel
theorem dX12_findsFar_58 : decode cX12_findsFar 58 = .ok (.iconst 3, 1) := by decide +kernel
theorem dX12_findsFar_59 : decode cX12_findsFar 59 = .ok (.iadd, 1) := by decide +kernel
theorem dX12_findsFar_60 : decode cX12_findsFar 60 = .ok (.iaload, 1) := by decide +kernel
theorem dX12_findsFar_61 : decode cX12_findsFar 61 = .ok (.if_icmp .le 6, 3) := by decide +kernel
theorem dX12_findsFar_64 : decode cX12_findsFar 64 = .ok (.goto 98, 3) := by decide +kernel
theorem dX12_findsFar_67 : decode cX12_findsFar 67 = .ok (.bipush 10, 2) := by decide +kernel
theorem dX12_findsFar_69 : decode cX12_findsFar 69 = .ok (.aload_n 0, 1) := by decide +kernel
theorem dX12_findsFar_70 : decode cX12_findsFar 70 = .ok (.getfield 74, 3) := by decide +kernel
theorem dX12_findsFar_73 : decode cX12_findsFar 73 = .ok (.iload_n 3, 1) := by decide +kernel
theorem dX12_findsFar_74 : decode cX12_findsFar 74 = .ok (.iconst 0, 1) := by decide +kernel
theorem dX12_findsFar_75 : decode cX12_findsFar 75 = .ok (.iadd, 1) := by decide +kernel
theorem dX12_findsFar_76 : decode cX12_findsFar 76 = .ok (.iaload, 1) := by decide +kernel
theorem dX12_findsFar_77 : decode cX12_findsFar 77 = .ok (.imul, 1) := by decide +kernel
theorem dX12_findsFar_78 : decode cX12_findsFar 78 = .ok (.aload_n 0, 1) := by decide +kernel
theorem dX12_findsFar_79 : decode cX12_findsFar 79 = .ok (.getfield 74, 3) := by decide +kernel
theorem dX12_findsFar_82 : decode cX12_findsFar 82 = .ok (.iload_n 3, 1) := by decide +kernel
theorem dX12_findsFar_83 : decode cX12_findsFar 83 = .ok (.iconst 1, 1) := by decide +kernel
theorem dX12_findsFar_84 : decode cX12_findsFar 84 = .ok (.iadd, 1) := by decide +kernel
theorem dX12_findsFar_85 : decode cX12_findsFar 85 = .ok (.iaload, 1) := by decide +kernel
theorem dX12_findsFar_86 : decode cX12_findsFar 86 = .ok (.iadd, 1) := by decide +kernel
theorem dX12_findsFar_87 : decode cX12_findsFar 87 = .ok (.istore 4, 2) := by decide +kernel
theorem dX12_findsFar_89 : decode cX12_findsFar 89 = .ok (.bipush 10, 2) := by decide +kernel
theorem dX12_findsFar_91 : decode cX12_findsFar 91 = .ok (.aload_n 0, 1) := by decide +kernel
theorem dX12_findsFar_92 : decode cX12_findsFar 92 = .ok (.getfield 74, 3) := by decide +kernel
theorem dX12_findsFar_95 : decode cX12_findsFar 95 = .ok (.iload_n 3, 1) := by decide +kernel
theorem dX12_findsFar_96 : decode cX12_findsFar 96 = .ok (.iconst 1, 1) := by decide +kernel
theorem dX12_findsFar_97 : decode cX12_findsFar 97 = .ok (.iadd, 1) := by decide +kernel
theorem dX12_findsFar_98 : decode cX12_findsFar 98 = .ok (.iaload, 1) := by decide +kernel
theorem dX12_findsFar_99 : decode cX12_findsFar 99 = .ok (.imul, 1) := by decide +kernel
theorem dX12_findsFar_100 : decode cX12_findsFar 100 = .ok (.aload_n 0, 1) := by decide +kernel
theorem dX12_findsFar_101 : decode cX12_findsFar 101 = .ok (.getfield 74, 3) := by decide +kernel
theorem dX12_findsFar_104 : decode cX12_findsFar 104 = .ok (.iload_n 3, 1) := by decide +kernel
theorem dX12_findsFar_105 : decode cX12_findsFar 105 = .ok (.iconst 0, 1) := by decide +kernel
theorem dX12_findsFar_106 : decode cX12_findsFar 106 = .ok (.iadd, 1) := by decide +kernel
theorem dX12_findsFar_107 : decode cX12_findsFar 107 = .ok (.iaload, 1) := by decide +kernel
theorem dX12_findsFar_108 : decode cX12_findsFar 108 = .ok (.iadd, 1) := by decide +kernel
theorem dX12_findsFar_109 : decode cX12_findsFar 109 = .ok (.istore 5, 2) := by decide +kernel
theorem dX12_findsFar_111 : decode cX12_findsFar 111 = .ok (.aload_n 0, 1) := by decide +kernel
theorem dX12_findsFar_112 : decode cX12_findsFar 112 = .ok (.getfield 74, 3) := by decide +kernel
theorem dX12_findsFar_115 : decode cX12_findsFar 115 = .ok (.iload_n 3, 1) := by decide +kernel
theorem dX12_findsFar_116 : decode cX12_findsFar 116 = .ok (.iconst 2, 1) := by decide +kernel
theorem dX12_findsFar_117 : decode cX12_findsFar 117 = .ok (.iadd, 1) := by decide +kernel
theorem dX12_findsFar_118 : decode cX12_findsFar 118 = .ok (.iaload, 1) := by decide +kernel
theorem dX12_findsFar_119 : decode cX12_findsFar 119 = .ok (.aload_n 0, 1) := by decide +kernel
theorem dX12_findsFar_120 : decode cX12_findsFar 120 = .ok (.getfield 101, 3) := by decide +kernel
theorem dX12_findsFar_123 : decode cX12_findsFar 123 = .ok (.iload 4, 2) := by decide +kernel
theorem dX12_findsFar_125 : decode cX12_findsFar 125 = .ok (.iaload, 1) := by decide +kernel
theorem dX12_findsFar_126 : decode cX12_findsFar 126 = .ok (.if_icmp .lt 6, 3) := by decide +kernel
theorem dX12_findsFar_129 : decode cX12_findsFar 129 = .ok (.goto 33, 3) := by decide +kernel
theorem dX12_findsFar_132 : decode cX12_findsFar 132 = .ok (.aload_n 0, 1) := by decide +kernel
theorem dX12_findsFar_133 : decode cX12_findsFar 133 = .ok (.getfield 101, 3) := by decide +kernel
theorem dX12_findsFar_136 : decode cX12_findsFar 136 = .ok (.iload 4, 2) := by decide +kernel
theorem dX12_findsFar_138 : decode cX12_findsFar 138 = .ok (.aload_n 0, 1) := by decide +kernel
theorem dX12_findsFar_139 : decode cX12_findsFar 139 = .ok (.getfield 74, 3) := by decide +kernel
theorem dX12_findsFar_142 : decode cX12_findsFar 142 = .ok (.iload_n 3, 1) := by decide +kernel
theorem dX12_findsFar_143 : decode cX12_findsFar 143 = .ok (.iconst 2, 1) := by decide +kernel
theorem dX12_findsFar_144 : decode cX12_findsFar 144 = .ok (.iadd, 1) := by decide +kernel
theorem dX12_findsFar_145 : decode cX12_findsFar 145 = .ok (.iaload, 1) := by decide +kernel
theorem dX12_findsFar_146 : decode cX12_findsFar 146 = .ok (.iastore, 1) := by decide +kernel
theorem dX12_findsFar_147 : decode cX12_findsFar 147 = .ok (.aload_n 0, 1) := by decide +kernel
theorem dX12_findsFar_148 : decode cX12_findsFar 148 = .ok (.getfield 101, 3) := by decide +kernel
theorem dX12_findsFar_151 : decode cX12_findsFar 151 = .ok (.iload 5, 2) := by decide +kernel
theorem dX12_findsFar_153 : decode cX12_findsFar 153 = .ok (.aload_n 0, 1) := by decide +kernel
theorem dX12_findsFar_154 : decode cX12_findsFar 154 = .ok (.getfield 74, 3) := by decide +kernel
theorem dX12_findsFar_157 : decode cX12_findsFar 157 = .ok (.iload_n 3, 1) := by decide +kernel
theorem dX12_findsFar_158 : decode cX12_findsFar 158 = .ok (.iconst 2, 1) := by decide +kernel
theorem dX12_findsFar_159 : decode cX12_findsFar 159 = .ok (.iadd, 1) := by decide +kernel
theorem dX12_findsFar_160 : decode cX12_findsFar 160 = .ok (.iaload, 1) := by decide +kernel
theorem dX12_findsFar_161 : decode cX12_findsFar 161 = .ok (.iastore, 1) := by decide +kernel
theorem dX12_findsFar_162 : decode cX12_findsFar 162 = .ok (.iinc 2 1, 3) := by decide +kernel
theorem dX12_findsFar_165 : decode cX12_findsFar 165 = .ok (.goto (-125), 3) := by decide +kernel
theorem dX12_findsFar_168 : decode cX12_findsFar 168 = .ok (.iconst 0, 1) := by decide +kernel
theorem dX12_findsFar_169 : decode cX12_findsFar 169 = .ok (.istore_n 2, 1) := by decide +kernel
theorem dX12_findsFar_170 : decode cX12_findsFar 170 = .ok (.iload_n 2, 1) := by decide +kernel
theorem dX12_findsFar_171 : decode cX12_findsFar 171 = .ok (.aload_n 0, 1) := by decide +kernel
theorem dX12_findsFar_172 : decode cX12_findsFar 172 = .ok (.getfield 148, 3) := by decide +kernel
theorem dX12_findsFar_175 : decode cX12_findsFar 175 = .ok (.if_icmp .ge 100, 3) := by decide +kernel
theorem dX12_findsFar_178 : decode cX12_findsFar 178 = .ok (.iconst 0, 1) := by decide +kernel
theorem dX12_findsFar_179 : decode cX12_findsFar 179 = .ok (.istore_n 3, 1) := by decide +kernel
theorem dX12_findsFar_180 : decode cX12_findsFar 180 = .ok (.iload_n 3, 1) := by decide +kernel
theorem dX12_findsFar_181 : decode cX12_findsFar 181 = .ok (.aload_n 0, 1) := by decide +kernel
theorem dX12_findsFar_182 : decode cX12_findsFar 182 = .ok (.getfield 148, 3) := by decide +kernel
theorem dX12_findsFar_185 : decode cX12_findsFar 185 = .ok (.if_icmp .ge 84, 3) := by decide +kernel
theorem dX12_findsFar_188 : decode cX12_findsFar 188 = .ok (.iconst 0, 1) := by decide +kernel
theorem dX12_findsFar_189 : decode cX12_findsFar 189 = .ok (.istore 4, 2) := by decide +kernel
theorem dX12_findsFar_191 : decode cX12_findsFar 191 = .ok (.iload 4, 2) := by decide +kernel
theorem dX12_findsFar_193 : decode cX12_findsFar 193 = .ok (.aload_n 0, 1) := by decide +kernel
theorem dX12_findsFar_194 : decode cX12_findsFar 194 = .ok (.getfield 148, 3) := by decide +kernel
theorem dX12_findsFar_197 : decode cX12_findsFar 197 = .ok (.if_icmp .ge 66, 3) := by decide +kernel
theorem dX12_findsFar_200 : decode cX12_findsFar 200 = .ok (.aload_n 0, 1) := by decide +kernel
theorem dX12_findsFar_201 : decode cX12_findsFar 201 = .ok (.getfield 101, 3) := by decide +kernel
theorem dX12_findsFar_204 : decode cX12_findsFar 204 = .ok (.bipush 10, 2) := by decide +kernel
theorem dX12_findsFar_206 : decode cX12_findsFar 206 = .ok (.iload_n 3, 1) := by decide +kernel
theorem dX12_findsFar_207 : decode cX12_findsFar 207 = .ok (.imul, 1) := by decide +kernel
theorem dX12_findsFar_208 : decode cX12_findsFar 208 = .ok (.iload_n 2, 1) := by decide +kernel
theorem dX12_findsFar_209 : decode cX12_findsFar 209 = .ok (.iadd, 1) := by decide +kernel
theorem dX12_findsFar_210 : decode cX12_findsFar 210 = .ok (.iaload, 1) := by decide +kernel
theorem dX12_findsFar_211 : decode cX12_findsFar 211 = .ok (.aload_n 0, 1) := by decide +kernel
theorem dX12_findsFar_212 : decode cX12_findsFar 212 = .ok (.getfield 101, 3) := by decide +kernel
theorem dX12_findsFar_215 : decode cX12_findsFar 215 = .ok (.bipush 10, 2) := by decide +kernel
theorem dX12_findsFar_217 : decode cX12_findsFar 217 = .ok (.iload_n 2, 1) := by decide +kernel
theorem dX12_findsFar_218 : decode cX12_findsFar 218 = .ok (.imul, 1) := by decide +kernel
theorem dX12_findsFar_219 : decode cX12_findsFar 219 = .ok (.iload 4, 2) := by decide +kernel
theorem dX12_findsFar_221 : decode cX12_findsFar 221 = .ok (.iadd, 1) := by decide +kernel
theorem dX12_findsFar_222 : decode cX12_findsFar 222 = .ok (.iaload, 1) := by decide +kernel
theorem dX12_findsFar_223 : decode cX12_findsFar 223 = .ok (.iadd, 1) := by decide +kernel
theorem dX12_findsFar_224 : decode cX12_findsFar 224 = .ok (.istore 5, 2) := by decide +kernel
theorem dX12_findsFar_226 : decode cX12_findsFar 226 = .ok (.iload 5, 2) := by decide +kernel
theorem dX12_findsFar_228 : decode cX12_findsFar 228 = .ok (.aload_n 0, 1) := by decide +kernel
theorem dX12_findsFar_229 : decode cX12_findsFar 229 = .ok (.getfield 101, 3) := by decide +kernel
theorem dX12_findsFar_232 : decode cX12_findsFar 232 = .ok (.bipush 10, 2) := by decide +kernel
theorem dX12_findsFar_234 : decode cX12_findsFar 234 = .ok (.iload_n 3, 1) := by decide +kernel
theorem dX12_findsFar_235 : decode cX12_findsFar 235 = .ok (.imul, 1) := by decide +kernel
theorem dX12_findsFar_236 : decode cX12_findsFar 236 = .ok (.iload 4, 2) := by decide +kernel
theorem dX12_findsFar_238 : decode cX12_findsFar 238 = .ok (.iadd, 1) := by decide +kernel
theorem dX12_findsFar_239 : decode cX12_findsFar 239 = .ok (.iaload, 1) := by decide +kernel
theorem dX12_findsFar_240 : decode cX12_findsFar 240 = .ok (.if_icmp .ge 17, 3) := by decide +kernel
theorem dX12_findsFar_243 : decode cX12_findsFar 243 = .ok (.aload_n 0, 1) := by decide +kernel
theorem dX12_findsFar_244 : decode cX12_findsFar 244 = .ok (.getfield 101, 3) := by decide +kernel
theorem dX12_findsFar_247 : decode cX12_findsFar 247 = .ok (.bipush 10, 2) := by decide +kernel
theorem dX12_findsFar_249 : decode cX12_findsFar 249 = .ok (.iload_n 3, 1) := by decide +kernel
theorem dX12_findsFar_250 : decode cX12_findsFar 250 = .ok (.imul, 1) := by decide +kernel
theorem dX12_findsFar_251 : decode cX12_findsFar 251 = .ok (.iload 4, 2) := by decide +kernel
theorem dX12_findsFar_253 : decode cX12_findsFar 253 = .ok (.iadd, 1) := by decide +kernel
theorem dX12_findsFar_254 : decode cX12_findsFar 254 = .ok (.iload 5, 2) := by decide +kernel
theorem dX12_findsFar_256 : decode cX12_findsFar 256 = .ok (.iastore, 1) := by decide +kernel
theorem dX12_findsFar_257 : decode cX12_findsFar 257 = .ok (.iinc 4 1, 3) := by decide +kernel
theorem dX12_findsFar_260 : decode cX12_findsFar 260 = .ok (.goto (-69), 3) := by decide +kernel
theorem dX12_findsFar_263 : decode cX12_findsFar 263 = .ok (.iinc 3 1, 3) := by decide +kernel
theorem dX12_findsFar_266 : decode cX12_findsFar 266 = .ok (.goto (-86), 3) := by decide +kernel
theorem dX12_findsFar_269 : decode cX12_findsFar 269 = .ok (.iinc 2 1, 3) := by decide +kernel
theorem dX12_findsFar_272 : decode cX12_findsFar 272 = .ok (.goto (-102), 3) := by decide +kernel
theorem dX12_findsFar_275 : decode cX12_findsFar 275 = .ok (.return_, 1) := by decide +kernel
theorem dX12_findsRows_0 : decode cX12_findsRows 0 = .ok (.aload_n 0, 1) := by decide +kernel
theorem dX12_findsRows_1 : decode cX12_findsRows 1 = .ok (.aload_n 0, 1) := by decide +kernel
theorem dX12_findsRows_2 : decode cX12_findsRows 2 = .ok (.getfield 7, 3) := by decide +kernel
theorem dX12_findsRows_5 : decode cX12_findsRows 5 = .ok (.iconst 4, 1) := by decide +kernel
theorem dX12_findsRows_6 : decode cX12_findsRows 6 = .ok (.iaload, 1) := by decide +kernel
theorem dX12_findsRows_7 : decode cX12_findsRows 7 = .ok (.invokevirtual 353, 3) := by decide +kernel
theorem dX12_findsRows_10 : decode cX12_findsRows 10 = .ok (.iconst 0, 1) := by decide +kernel
theorem dX12_findsRows_11 : decode cX12_findsRows 11 = .ok (.istore_n 2, 1) := by decide +kernel
theorem dX12_findsRows_12 : decode cX12_findsRows 12 = .ok (.iload_n 2, 1) := by decide +kernel
theorem dX12_findsRows_13 : decode cX12_findsRows 13 = .ok (.iload_n 1, 1) := by decide +kernel
theorem dX12_findsRows_14 : decode cX12_findsRows 14 = .ok (.if_icmp .ge 69, 3) := by decide +kernel
theorem dX12_findsRows_17 : decode cX12_findsRows 17 = .ok (.iconst 0, 1) := by decide +kernel
theorem dX12_findsRows_18 : decode cX12_findsRows 18 = .ok (.istore_n 3, 1) := by decide +kernel
theorem dX12_findsRows_19 : decode cX12_findsRows 19 = .ok (.iload_n 3, 1) := by decide +kernel
theorem dX12_findsRows_20 : decode cX12_findsRows 20 = .ok (.aload_n 0, 1) := by decide +kernel
theorem dX12_findsRows_21 : decode cX12_findsRows 21 = .ok (.getfield 148, 3) := by decide +kernel
theorem dX12_findsRows_24 : decode cX12_findsRows 24 = .ok (.if_icmp .ge 53, 3) := by decide +kernel
theorem dX12_findsRows_27 : decode cX12_findsRows 27 = .ok (.aload_n 0, 1) := by decide +kernel
theorem dX12_findsRows_28 : decode cX12_findsRows 28 = .ok (.getfield 120, 3) := by decide +kernel
theorem dX12_findsRows_31 : decode cX12_findsRows 31 = .ok (.bipush 10, 2) := by decide +kernel
theorem dX12_findsRows_33 : decode cX12_findsRows 33 = .ok (.iload_n 2, 1) := by decide +kernel
theorem dX12_findsRows_34 : decode cX12_findsRows 34 = .ok (.imul, 1) := by decide +kernel
theorem dX12_findsRows_35 : decode cX12_findsRows 35 = .ok (.iload_n 3, 1) := by decide +kernel
theorem dX12_findsRows_36 : decode cX12_findsRows 36 = .ok (.iadd, 1) := by decide +kernel
theorem dX12_findsRows_37 : decode cX12_findsRows 37 = .ok (.aload_n 0, 1) := by decide +kernel
theorem dX12_findsRows_38 : decode cX12_findsRows 38 = .ok (.iload_n 2, 1) := by decide +kernel
theorem dX12_findsRows_39 : decode cX12_findsRows 39 = .ok (.iload_n 3, 1) := by decide +kernel
theorem dX12_findsRows_40 : decode cX12_findsRows 40 = .ok (.invokevirtual 520, 3) := by decide +kernel
theorem dX12_findsRows_43 : decode cX12_findsRows 43 = .ok (.ifCond .ne 7, 3) := by decide +kernel
theorem dX12_findsRows_46 : decode cX12_findsRows 46 = .ok (.lconst 0, 1) := by decide +kernel
theorem dX12_findsRows_47 : decode cX12_findsRows 47 = .ok (.goto 23, 3) := by decide +kernel
theorem dX12_findsRows_50 : decode cX12_findsRows 50 = .ok (.iload_n 2, 1) := by decide +kernel
theorem dX12_findsRows_51 : decode cX12_findsRows 51 = .ok (.ifCond .ne 7, 3) := by decide +kernel
theorem dX12_findsRows_54 : decode cX12_findsRows 54 = .ok (.lconst 1, 1) := by decide +kernel
theorem dX12_findsRows_55 : decode cX12_findsRows 55 = .ok (.goto 15, 3) := by decide +kernel
theorem dX12_findsRows_58 : decode cX12_findsRows 58 = .ok (.aload_n 0, 1) := by decide +kernel
theorem dX12_findsRows_59 : decode cX12_findsRows 59 = .ok (.aload_n 0, 1) := by decide +kernel
theorem dX12_findsRows_60 : decode cX12_findsRows 60 = .ok (.getfield 120, 3) := by decide +kernel
theorem dX12_findsRows_63 : decode cX12_findsRows 63 = .ok (.iload_n 2, 1) := by decide +kernel
theorem dX12_findsRows_64 : decode cX12_findsRows 64 = .ok (.iconst 1, 1) := by decide +kernel
theorem dX12_findsRows_65 : decode cX12_findsRows 65 = .ok (.isub, 1) := by decide +kernel
theorem dX12_findsRows_66 : decode cX12_findsRows 66 = .ok (.iload_n 3, 1) := by decide +kernel
theorem dX12_findsRows_67 : decode cX12_findsRows 67 = .ok (.invokevirtual 523, 3) := by decide +kernel
theorem dX12_findsRows_70 : decode cX12_findsRows 70 = .ok (.lastore, 1) := by decide +kernel
theorem dX12_findsRows_71 : decode cX12_findsRows 71 = .ok (.iinc 3 1, 3) := by decide +kernel
theorem dX12_findsRows_74 : decode cX12_findsRows 74 = .ok (.goto (-55), 3) := by decide +kernel
theorem dX12_findsRows_77 : decode cX12_findsRows 77 = .ok (.iinc 2 1, 3) := by decide +kernel
theorem dX12_findsRows_80 : decode cX12_findsRows 80 = .ok (.goto (-68), 3) := by decide +kernel
theorem dX12_findsRows_83 : decode cX12_findsRows 83 = .ok (.iload_n 1, 1) := by decide +kernel
theorem dX12_findsRows_84 : decode cX12_findsRows 84 = .ok (.iconst 1, 1) := by decide +kernel
theorem dX12_findsRows_85 : decode cX12_findsRows 85 = .ok (.isub, 1) := by decide +kernel
theorem dX12_findsRows_86 : decode cX12_findsRows 86 = .ok (.istore_n 2, 1) := by decide +kernel
theorem dX12_findsRows_87 : decode cX12_findsRows 87 = .ok (.iload_n 2, 1) := by decide +kernel
theorem dX12_findsRows_88 : decode cX12_findsRows 88 = .ok (.ifCond .lt 72, 3) := by decide +kernel
theorem dX12_findsRows_91 : decode cX12_findsRows 91 = .ok (.iconst 0, 1) := by decide +kernel
theorem dX12_findsRows_92 : decode cX12_findsRows 92 = .ok (.istore_n 3, 1) := by decide +kernel
theorem dX12_findsRows_93 : decode cX12_findsRows 93 = .ok (.iload_n 3, 1) := by decide +kernel
theorem dX12_findsRows_94 : decode cX12_findsRows 94 = .ok (.aload_n 0, 1) := by decide +kernel
theorem dX12_findsRows_95 : decode cX12_findsRows 95 = .ok (.getfield 148, 3) := by decide +kernel
theorem dX12_findsRows_98 : decode cX12_findsRows 98 = .ok (.if_icmp .ge 56, 3) := by decide +kernel
theorem dX12_findsRows_101 : decode cX12_findsRows 101 = .ok (.aload_n 0, 1) := by decide +kernel
theorem dX12_findsRows_102 : decode cX12_findsRows 102 = .ok (.getfield 124, 3) := by decide +kernel
theorem dX12_findsRows_105 : decode cX12_findsRows 105 = .ok (.bipush 10, 2) := by decide +kernel
theorem dX12_findsRows_107 : decode cX12_findsRows 107 = .ok (.iload_n 2, 1) := by decide +kernel
theorem dX12_findsRows_108 : decode cX12_findsRows 108 = .ok (.imul, 1) := by decide +kernel
theorem dX12_findsRows_109 : decode cX12_findsRows 109 = .ok (.iload_n 3, 1) := by decide +kernel
theorem dX12_findsRows_110 : decode cX12_findsRows 110 = .ok (.iadd, 1) := by decide +kernel
theorem dX12_findsRows_111 : decode cX12_findsRows 111 = .ok (.aload_n 0, 1) := by decide +kernel
theorem dX12_findsRows_112 : decode cX12_findsRows 112 = .ok (.iload_n 2, 1) := by decide +kernel
theorem dX12_findsRows_113 : decode cX12_findsRows 113 = .ok (.iload_n 3, 1) := by decide +kernel
theorem dX12_findsRows_114 : decode cX12_findsRows 114 = .ok (.invokevirtual 520, 3) := by decide +kernel
theorem dX12_findsRows_117 : decode cX12_findsRows 117 = .ok (.ifCond .ne 7, 3) := by decide +kernel
theorem dX12_findsRows_120 : decode cX12_findsRows 120 = .ok (.lconst 0, 1) := by decide +kernel
theorem dX12_findsRows_121 : decode cX12_findsRows 121 = .ok (.goto 26, 3) := by decide +kernel
theorem dX12_findsRows_124 : decode cX12_findsRows 124 = .ok (.iload_n 2, 1) := by decide +kernel
theorem dX12_findsRows_125 : decode cX12_findsRows 125 = .ok (.iload_n 1, 1) := by decide +kernel
theorem dX12_findsRows_126 : decode cX12_findsRows 126 = .ok (.iconst 1, 1) := by decide +kernel
theorem dX12_findsRows_127 : decode cX12_findsRows 127 = .ok (.isub, 1) := by decide +kernel
theorem dX12_findsRows_128 : decode cX12_findsRows 128 = .ok (.if_icmp .ne 7, 3) := by decide +kernel
theorem dX12_findsRows_131 : decode cX12_findsRows 131 = .ok (.lconst 1, 1) := by decide +kernel
theorem dX12_findsRows_132 : decode cX12_findsRows 132 = .ok (.goto 15, 3) := by decide +kernel
theorem dX12_findsRows_135 : decode cX12_findsRows 135 = .ok (.aload_n 0, 1) := by decide +kernel
theorem dX12_findsRows_136 : decode cX12_findsRows 136 = .ok (.aload_n 0, 1) := by decide +kernel
theorem dX12_findsRows_137 : decode cX12_findsRows 137 = .ok (.getfield 124, 3) := by decide +kernel
theorem dX12_findsRows_140 : decode cX12_findsRows 140 = .ok (.iload_n 2, 1) := by decide +kernel
theorem dX12_findsRows_141 : decode cX12_findsRows 141 = .ok (.iconst 1, 1) := by decide +kernel
theorem dX12_findsRows_142 : decode cX12_findsRows 142 = .ok (.iadd, 1) := by decide +kernel
theorem dX12_findsRows_143 : decode cX12_findsRows 143 = .ok (.iload_n 3, 1) := by decide +kernel
theorem dX12_findsRows_144 : decode cX12_findsRows 144 = .ok (.invokevirtual 523, 3) := by decide +kernel
theorem dX12_findsRows_147 : decode cX12_findsRows 147 = .ok (.lastore, 1) := by decide +kernel
theorem dX12_findsRows_148 : decode cX12_findsRows 148 = .ok (.iinc 3 1, 3) := by decide +kernel
theorem dX12_findsRows_151 : decode cX12_findsRows 151 = .ok (.goto (-58), 3) := by decide +kernel
theorem dX12_findsRows_154 : decode cX12_findsRows 154 = .ok (.iinc 2 (-1), 3) := by decide +kernel
theorem dX12_findsRows_157 : decode cX12_findsRows 157 = .ok (.goto (-70), 3) := by decide +kernel
theorem dX12_findsRows_160 : decode cX12_findsRows 160 = .ok (.return_, 1) := by decide +kernel
theorem dX12_friends_0 : decode cX12_friends 0 = .ok (.aload_n 0, 1) := by decide +kernel
theorem dX12_friends_1 : decode cX12_friends 1 = .ok (.iconst 0, 1) := by decide +kernel
theorem dX12_friends_2 : decode cX12_friends 2 = .ok (.putfield 130, 3) := by decide +kernel
theorem dX12_friends_5 : decode cX12_friends 5 = .ok (.aload_n 0, 1) := by decide +kernel
theorem dX12_friends_6 : decode cX12_friends 6 = .ok (.iload_n 1, 1) := by decide +kernel
theorem dX12_friends_7 : decode cX12_friends 7 = .ok (.invokevirtual 155, 3) := by decide +kernel
theorem dX12_friends_10 : decode cX12_friends 10 = .ok (.ifCond .eq 16, 3) := by decide +kernel
theorem dX12_friends_13 : decode cX12_friends 13 = .ok (.aload_n 0, 1) := by decide +kernel
theorem dX12_friends_14 : decode cX12_friends 14 = .ok (.iload_n 2, 1) := by decide +kernel
theorem dX12_friends_15 : decode cX12_friends 15 = .ok (.invokevirtual 155, 3) := by decide +kernel
theorem dX12_friends_18 : decode cX12_friends 18 = .ok (.ifCond .eq 8, 3) := by decide +kernel
theorem dX12_friends_21 : decode cX12_friends 21 = .ok (.iload_n 1, 1) := by decide +kernel
theorem dX12_friends_22 : decode cX12_friends 22 = .ok (.iload_n 2, 1) := by decide +kernel
theorem dX12_friends_23 : decode cX12_friends 23 = .ok (.if_icmp .ne 5, 3) := by decide +kernel
theorem dX12_friends_26 : decode cX12_friends 26 = .ok (.iconst 0, 1) := by decide +kernel
theorem dX12_friends_27 : decode cX12_friends 27 = .ok (.ireturn, 1) := by decide +kernel
theorem dX12_friends_28 : decode cX12_friends 28 = .ok (.aload_n 0, 1) := by decide +kernel
theorem dX12_friends_29 : decode cX12_friends 29 = .ok (.getfield 31, 3) := by decide +kernel
theorem dX12_friends_32 : decode cX12_friends 32 = .ok (.iload_n 1, 1) := by decide +kernel
theorem dX12_friends_33 : decode cX12_friends 33 = .ok (.iload_n 3, 1) := by decide +kernel
theorem dX12_friends_34 : decode cX12_friends 34 = .ok (.ifCond .eq 16, 3) := by decide +kernel
theorem dX12_friends_37 : decode cX12_friends 37 = .ok (.aload_n 0, 1) := by decide +kernel
theorem dX12_friends_38 : decode cX12_friends 38 = .ok (.getfield 31, 3) := by decide +kernel
theorem dX12_friends_41 : decode cX12_friends 41 = .ok (.iload_n 1, 1) := by decide +kernel
theorem dX12_friends_42 : decode cX12_friends 42 = .ok (.iaload, 1) := by decide +kernel
theorem dX12_friends_43 : decode cX12_friends 43 = .ok (.iconst 1, 1) := by decide +kernel
theorem dX12_friends_44 : decode cX12_friends 44 = .ok (.iload_n 2, 1) := by decide +kernel
theorem dX12_friends_45 : decode cX12_friends 45 = .ok (.ishl, 1) := by decide +kernel
theorem dX12_friends_46 : decode cX12_friends 46 = .ok (.ior, 1) := by decide +kernel
theorem dX12_friends_47 : decode cX12_friends 47 = .ok (.goto 15, 3) := by decide +kernel
theorem dX12_friends_50 : decode cX12_friends 50 = .ok (.aload_n 0, 1) := by decide +kernel
theorem dX12_friends_51 : decode cX12_friends 51 = .ok (.getfield 31, 3) := by decide +kernel
theorem dX12_friends_54 : decode cX12_friends 54 = .ok (.iload_n 1, 1) := by decide +kernel
theorem dX12_friends_55 : decode cX12_friends 55 = .ok (.iaload, 1) := by decide +kernel
theorem dX12_friends_56 : decode cX12_friends 56 = .ok (.iconst 1, 1) := by decide +kernel
theorem dX12_friends_57 : decode cX12_friends 57 = .ok (.iload_n 2, 1) := by decide +kernel
theorem dX12_friends_58 : decode cX12_friends 58 = .ok (.ishl, 1) := by decide +kernel
theorem dX12_friends_59 : decode cX12_friends 59 = .ok (.iconst (-1), 1) := by decide +kernel
theorem dX12_friends_60 : decode cX12_friends 60 = .ok (.ixor, 1) := by decide +kernel
theorem dX12_friends_61 : decode cX12_friends 61 = .ok (.iand, 1) := by decide +kernel
theorem dX12_friends_62 : decode cX12_friends 62 = .ok (.iastore, 1) := by decide +kernel
theorem dX12_friends_63 : decode cX12_friends 63 = .ok (.aload_n 0, 1) := by decide +kernel
theorem dX12_friends_64 : decode cX12_friends 64 = .ok (.getfield 31, 3) := by decide +kernel
theorem dX12_friends_67 : decode cX12_friends 67 = .ok (.iload_n 2, 1) := by decide +kernel
theorem dX12_friends_68 : decode cX12_friends 68 = .ok (.iload_n 3, 1) := by decide +kernel
theorem dX12_friends_69 : decode cX12_friends 69 = .ok (.ifCond .eq 16, 3) := by decide +kernel
theorem dX12_friends_72 : decode cX12_friends 72 = .ok (.aload_n 0, 1) := by decide +kernel
theorem dX12_friends_73 : decode cX12_friends 73 = .ok (.getfield 31, 3) := by decide +kernel
theorem dX12_friends_76 : decode cX12_friends 76 = .ok (.iload_n 2, 1) := by decide +kernel
theorem dX12_friends_77 : decode cX12_friends 77 = .ok (.iaload, 1) := by decide +kernel
theorem dX12_friends_78 : decode cX12_friends 78 = .ok (.iconst 1, 1) := by decide +kernel
theorem dX12_friends_79 : decode cX12_friends 79 = .ok (.iload_n 1, 1) := by decide +kernel
theorem dX12_friends_80 : decode cX12_friends 80 = .ok (.ishl, 1) := by decide +kernel
theorem dX12_friends_81 : decode cX12_friends 81 = .ok (.ior, 1) := by decide +kernel
theorem dX12_friends_82 : decode cX12_friends 82 = .ok (.goto 15, 3) := by decide +kernel
theorem dX12_friends_85 : decode cX12_friends 85 = .ok (.aload_n 0, 1) := by decide +kernel
theorem dX12_friends_86 : decode cX12_friends 86 = .ok (.getfield 31, 3) := by decide +kernel
theorem dX12_friends_89 : decode cX12_friends 89 = .ok (.iload_n 2, 1) := by decide +kernel
theorem dX12_friends_90 : decode cX12_friends 90 = .ok (.iaload, 1) := by decide +kernel
theorem dX12_friends_91 : decode cX12_friends 91 = .ok (.iconst 1, 1) := by decide +kernel
theorem dX12_friends_92 : decode cX12_friends 92 = .ok (.iload_n 1, 1) := by decide +kernel
theorem dX12_friends_93 : decode cX12_friends 93 = .ok (.ishl, 1) := by decide +kernel
theorem dX12_friends_94 : decode cX12_friends 94 = .ok (.iconst (-1), 1) := by decide +kernel
theorem dX12_friends_95 : decode cX12_friends 95 = .ok (.ixor, 1) := by decide +kernel
theorem dX12_friends_96 : decode cX12_friends 96 = .ok (.iand, 1) := by decide +kernel
theorem dX12_friends_97 : decode cX12_friends 97 = .ok (.iastore, 1) := by decide +kernel
theorem dX12_friends_98 : decode cX12_friends 98 = .ok (.aload_n 0, 1) := by decide +kernel
theorem dX12_friends_99 : decode cX12_friends 99 = .ok (.iconst 0, 1) := by decide +kernel
theorem dX12_friends_100 : decode cX12_friends 100 = .ok (.putfield 133, 3) := by decide +kernel
theorem dX12_friends_103 : decode cX12_friends 103 = .ok (.iconst 1, 1) := by decide +kernel
theorem dX12_friends_104 : decode cX12_friends 104 = .ok (.ireturn, 1) := by decide +kernel
theorem dX12_greater_0 : decode cX12_greater 0 = .ok (.iload_n 1, 1) := by decide +kernel
theorem dX12_greater_1 : decode cX12_greater 1 = .ok (.iload_n 2, 1) := by decide +kernel
theorem dX12_greater_2 : decode cX12_greater 2 = .ok (.if_icmp .le 7, 3) := by decide +kernel
theorem dX12_greater_5 : decode cX12_greater 5 = .ok (.iload_n 1, 1) := by decide +kernel
theorem dX12_greater_6 : decode cX12_greater 6 = .ok (.goto 4, 3) := by decide +kernel
theorem dX12_greater_9 : decode cX12_greater 9 = .ok (.iload_n 2, 1) := by decide +kernel
theorem dX12_greater_10 : decode cX12_greater 10 = .ok (.ireturn, 1) := by decide +kernel
theorem dX12_held_0 : decode cX12_held 0 = .ok (.iload_n 1, 1) := by decide +kernel
theorem dX12_held_1 : decode cX12_held 1 = .ok (.iload_n 2, 1) := by decide +kernel
theorem dX12_held_2 : decode cX12_held 2 = .ok (.if_icmp .ge 7, 3) := by decide +kernel
theorem dX12_held_5 : decode cX12_held 5 = .ok (.iload_n 2, 1) := by decide +kernel
theorem dX12_held_6 : decode cX12_held 6 = .ok (.goto 13, 3) := by decide +kernel
theorem dX12_held_9 : decode cX12_held 9 = .ok (.iload_n 1, 1) := by decide +kernel
theorem dX12_held_10 : decode cX12_held 10 = .ok (.iload_n 3, 1) := by decide +kernel
theorem dX12_held_11 : decode cX12_held 11 = .ok (.if_icmp .le 7, 3) := by decide +kernel
theorem dX12_held_14 : decode cX12_held 14 = .ok (.iload_n 3, 1) := by decide +kernel
theorem dX12_held_15 : decode cX12_held 15 = .ok (.goto 4, 3) := by decide +kernel
theorem dX12_held_18 : decode cX12_held 18 = .ok (.iload_n 1, 1) := by decide +kernel
theorem dX12_held_19 : decode cX12_held 19 = .ok (.ireturn, 1) := by decide +kernel
theorem dX12_highest_0 : decode cX12_highest 0 = .ok (.iconst (-1), 1) := by decide +kernel
theorem dX12_highest_1 : decode cX12_highest 1 = .ok (.istore_n 2, 1) := by decide +kernel
theorem dX12_highest_2 : decode cX12_highest 2 = .ok (.iconst 0, 1) := by decide +kernel
theorem dX12_highest_3 : decode cX12_highest 3 = .ok (.istore_n 3, 1) := by decide +kernel
theorem dX12_highest_4 : decode cX12_highest 4 = .ok (.iload_n 3, 1) := by decide +kernel
theorem dX12_highest_5 : decode cX12_highest 5 = .ok (.aload_n 0, 1) := by decide +kernel
theorem dX12_highest_6 : decode cX12_highest 6 = .ok (.getfield 148, 3) := by decide +kernel
theorem dX12_highest_9 : decode cX12_highest 9 = .ok (.if_icmp .ge 45, 3) := by decide +kernel
theorem dX12_highest_12 : decode cX12_highest 12 = .ok (.iload_n 3, 1) := by decide +kernel
theorem dX12_highest_13 : decode cX12_highest 13 = .ok (.iload_n 1, 1) := by decide +kernel
theorem dX12_highest_14 : decode cX12_highest 14 = .ok (.if_icmp .eq 34, 3) := by decide +kernel
theorem dX12_highest_17 : decode cX12_highest 17 = .ok (.aload_n 0, 1) := by decide +kernel
theorem dX12_highest_18 : decode cX12_highest 18 = .ok (.getfield 25, 3) := by decide +kernel
theorem dX12_highest_21 : decode cX12_highest 21 = .ok (.iload_n 3, 1) := by decide +kernel
theorem dX12_highest_22 : decode cX12_highest 22 = .ok (.iaload, 1) := by decide +kernel
theorem dX12_highest_23 : decode cX12_highest 23 = .ok (.ifCond .le 25, 3) := by decide +kernel
theorem dX12_highest_26 : decode cX12_highest 26 = .ok (.iload_n 2, 1) := by decide +kernel
theorem dX12_highest_27 : decode cX12_highest 27 = .ok (.iconst (-1), 1) := by decide +kernel
theorem dX12_highest_28 : decode cX12_highest 28 = .ok (.if_icmp .eq 18, 3) := by decide +kernel
theorem dX12_highest_31 : decode cX12_highest 31 = .ok (.aload_n 0, 1) := by decide +kernel
theorem dX12_highest_32 : decode cX12_highest 32 = .ok (.getfield 25, 3) := by decide +kernel
theorem dX12_highest_35 : decode cX12_highest 35 = .ok (.iload_n 3, 1) := by decide +kernel
theorem dX12_highest_36 : decode cX12_highest 36 = .ok (.iaload, 1) := by decide +kernel
theorem dX12_highest_37 : decode cX12_highest 37 = .ok (.aload_n 0, 1) := by decide +kernel
theorem dX12_highest_38 : decode cX12_highest 38 = .ok (.getfield 25, 3) := by decide +kernel
theorem dX12_highest_41 : decode cX12_highest 41 = .ok (.iload_n 2, 1) := by decide +kernel
theorem dX12_highest_42 : decode cX12_highest 42 = .ok (.iaload, 1) := by decide +kernel
theorem dX12_highest_43 : decode cX12_highest 43 = .ok (.if_icmp .le 5, 3) := by decide +kernel
theorem dX12_highest_46 : decode cX12_highest 46 = .ok (.iload_n 3, 1) := by decide +kernel
theorem dX12_highest_47 : decode cX12_highest 47 = .ok (.istore_n 2, 1) := by decide +kernel
theorem dX12_highest_48 : decode cX12_highest 48 = .ok (.iinc 3 1, 3) := by decide +kernel
theorem dX12_highest_51 : decode cX12_highest 51 = .ok (.goto (-47), 3) := by decide +kernel
theorem dX12_highest_54 : decode cX12_highest 54 = .ok (.iload_n 2, 1) := by decide +kernel
theorem dX12_highest_55 : decode cX12_highest 55 = .ok (.ireturn, 1) := by decide +kernel
theorem dX12_isBetween_0 : decode cX12_isBetween 0 = .ok (.iload_n 1, 1) := by decide +kernel
theorem dX12_isBetween_1 : decode cX12_isBetween 1 = .ok (.bipush 8, 2) := by decide +kernel
theorem dX12_isBetween_3 : decode cX12_isBetween 3 = .ok (.irem, 1) := by decide +kernel
theorem dX12_isBetween_4 : decode cX12_isBetween 4 = .ok (.iload_n 2, 1) := by decide +kernel
theorem dX12_isBetween_5 : decode cX12_isBetween 5 = .ok (.bipush 8, 2) := by decide +kernel
theorem dX12_isBetween_7 : decode cX12_isBetween 7 = .ok (.irem, 1) := by decide +kernel
theorem dX12_isBetween_8 : decode cX12_isBetween 8 = .ok (.isub, 1) := by decide +kernel
theorem dX12_isBetween_9 : decode cX12_isBetween 9 = .ok (.istore 4, 2) := by decide +kernel
theorem dX12_isBetween_11 : decode cX12_isBetween 11 = .ok (.iload_n 1, 1) := by decide +kernel
theorem dX12_isBetween_12 : decode cX12_isBetween 12 = .ok (.bipush 8, 2) := by decide +kernel
theorem dX12_isBetween_14 : decode cX12_isBetween 14 = .ok (.idiv, 1) := by decide +kernel
theorem dX12_isBetween_15 : decode cX12_isBetween 15 = .ok (.iload_n 2, 1) := by decide +kernel
theorem dX12_isBetween_16 : decode cX12_isBetween 16 = .ok (.bipush 8, 2) := by decide +kernel
theorem dX12_isBetween_18 : decode cX12_isBetween 18 = .ok (.idiv, 1) := by decide +kernel
theorem dX12_isBetween_19 : decode cX12_isBetween 19 = .ok (.isub, 1) := by decide +kernel
theorem dX12_isBetween_20 : decode cX12_isBetween 20 = .ok (.istore 5, 2) := by decide +kernel
theorem dX12_isBetween_22 : decode cX12_isBetween 22 = .ok (.iload_n 3, 1) := by decide +kernel
theorem dX12_isBetween_23 : decode cX12_isBetween 23 = .ok (.bipush 8, 2) := by decide +kernel
theorem dX12_isBetween_25 : decode cX12_isBetween 25 = .ok (.irem, 1) := by decide +kernel
theorem dX12_isBetween_26 : decode cX12_isBetween 26 = .ok (.iload_n 2, 1) := by decide +kernel
theorem dX12_isBetween_27 : decode cX12_isBetween 27 = .ok (.bipush 8, 2) := by decide +kernel
theorem dX12_isBetween_29 : decode cX12_isBetween 29 = .ok (.irem, 1) := by decide +kernel
theorem dX12_isBetween_30 : decode cX12_isBetween 30 = .ok (.isub, 1) := by decide +kernel
theorem dX12_isBetween_31 : decode cX12_isBetween 31 = .ok (.istore 6, 2) := by decide +kernel
theorem dX12_isBetween_33 : decode cX12_isBetween 33 = .ok (.iload_n 3, 1) := by decide +kernel
theorem dX12_isBetween_34 : decode cX12_isBetween 34 = .ok (.bipush 8, 2) := by decide +kernel
theorem dX12_isBetween_36 : decode cX12_isBetween 36 = .ok (.idiv, 1) := by decide +kernel
theorem dX12_isBetween_37 : decode cX12_isBetween 37 = .ok (.iload_n 2, 1) := by decide +kernel
theorem dX12_isBetween_38 : decode cX12_isBetween 38 = .ok (.bipush 8, 2) := by decide +kernel
theorem dX12_isBetween_40 : decode cX12_isBetween 40 = .ok (.idiv, 1) := by decide +kernel
theorem dX12_isBetween_41 : decode cX12_isBetween 41 = .ok (.isub, 1) := by decide +kernel
theorem dX12_isBetween_42 : decode cX12_isBetween 42 = .ok (.istore 7, 2) := by decide +kernel
theorem dX12_isBetween_44 : decode cX12_isBetween 44 = .ok (.iload 4, 2) := by decide +kernel
theorem dX12_isBetween_46 : decode cX12_isBetween 46 = .ok (.iload 7, 2) := by decide +kernel
theorem dX12_isBetween_48 : decode cX12_isBetween 48 = .ok (.imul, 1) := by decide +kernel
theorem dX12_isBetween_49 : decode cX12_isBetween 49 = .ok (.iload 5, 2) := by decide +kernel
theorem dX12_isBetween_51 : decode cX12_isBetween 51 = .ok (.iload 6, 2) := by decide +kernel
theorem dX12_isBetween_53 : decode cX12_isBetween 53 = .ok (.imul, 1) := by decide +kernel
theorem dX12_isBetween_54 : decode cX12_isBetween 54 = .ok (.if_icmp .eq 5, 3) := by decide +kernel
theorem dX12_isBetween_57 : decode cX12_isBetween 57 = .ok (.iconst 0, 1) := by decide +kernel
theorem dX12_isBetween_58 : decode cX12_isBetween 58 = .ok (.ireturn, 1) := by decide +kernel
theorem dX12_isBetween_59 : decode cX12_isBetween 59 = .ok (.iload 4, 2) := by decide +kernel
theorem dX12_isBetween_61 : decode cX12_isBetween 61 = .ok (.iload 6, 2) := by decide +kernel
theorem dX12_isBetween_63 : decode cX12_isBetween 63 = .ok (.imul, 1) := by decide +kernel
theorem dX12_isBetween_64 : decode cX12_isBetween 64 = .ok (.iload 5, 2) := by decide +kernel
theorem dX12_isBetween_66 : decode cX12_isBetween 66 = .ok (.iload 7, 2) := by decide +kernel
theorem dX12_isBetween_68 : decode cX12_isBetween 68 = .ok (.imul, 1) := by decide +kernel
theorem dX12_isBetween_69 : decode cX12_isBetween 69 = .ok (.iadd, 1) := by decide +kernel
theorem dX12_isBetween_70 : decode cX12_isBetween 70 = .ok (.istore 8, 2) := by decide +kernel
theorem dX12_isBetween_72 : decode cX12_isBetween 72 = .ok (.iload 8, 2) := by decide +kernel
theorem dX12_isBetween_74 : decode cX12_isBetween 74 = .ok (.ifCond .le 23, 3) := by decide +kernel
theorem dX12_isBetween_77 : decode cX12_isBetween 77 = .ok (.iload 8, 2) := by decide +kernel
theorem dX12_isBetween_79 : decode cX12_isBetween 79 = .ok (.iload 6, 2) := by decide +kernel
theorem dX12_isBetween_81 : decode cX12_isBetween 81 = .ok (.iload 6, 2) := by decide +kernel
theorem dX12_isBetween_83 : decode cX12_isBetween 83 = .ok (.imul, 1) := by decide +kernel
theorem dX12_isBetween_84 : decode cX12_isBetween 84 = .ok (.iload 7, 2) := by decide +kernel
theorem dX12_isBetween_86 : decode cX12_isBetween 86 = .ok (.iload 7, 2) := by decide +kernel
theorem dX12_isBetween_88 : decode cX12_isBetween 88 = .ok (.imul, 1) := by decide +kernel
theorem dX12_isBetween_89 : decode cX12_isBetween 89 = .ok (.iadd, 1) := by decide +kernel
theorem dX12_isBetween_90 : decode cX12_isBetween 90 = .ok (.if_icmp .ge 7, 3) := by decide +kernel
theorem dX12_isBetween_93 : decode cX12_isBetween 93 = .ok (.iconst 1, 1) := by decide +kernel
theorem dX12_isBetween_94 : decode cX12_isBetween 94 = .ok (.goto 4, 3) := by decide +kernel
theorem dX12_isBetween_97 : decode cX12_isBetween 97 = .ok (.iconst 0, 1) := by decide +kernel
theorem dX12_isBetween_98 : decode cX12_isBetween 98 = .ok (.ireturn, 1) := by decide +kernel
theorem dX12_isDigit_0 : decode cX12_isDigit 0 = .ok (.aload_n 0, 1) := by decide +kernel
theorem dX12_isDigit_1 : decode cX12_isDigit 1 = .ok (.iload_n 1, 1) := by decide +kernel
theorem dX12_isDigit_2 : decode cX12_isDigit 2 = .ok (.bipush 48, 2) := by decide +kernel
theorem dX12_isDigit_4 : decode cX12_isDigit 4 = .ok (.bipush 57, 2) := by decide +kernel
theorem dX12_isDigit_6 : decode cX12_isDigit 6 = .ok (.invokevirtual 151, 3) := by decide +kernel
theorem dX12_isDigit_9 : decode cX12_isDigit 9 = .ok (.ireturn, 1) := by decide +kernel
theorem dX12_isHouse_0 : decode cX12_isHouse 0 = .ok (.iload_n 1, 1) := by decide +kernel
theorem dX12_isHouse_1 : decode cX12_isHouse 1 = .ok (.ifCond .lt 15, 3) := by decide +kernel
theorem dX12_isHouse_4 : decode cX12_isHouse 4 = .ok (.iload_n 1, 1) := by decide +kernel
theorem dX12_isHouse_5 : decode cX12_isHouse 5 = .ok (.aload_n 0, 1) := by decide +kernel
theorem dX12_isHouse_6 : decode cX12_isHouse 6 = .ok (.getfield 148, 3) := by decide +kernel
theorem dX12_isHouse_9 : decode cX12_isHouse 9 = .ok (.if_icmp .ge 7, 3) := by decide +kernel
theorem dX12_isHouse_12 : decode cX12_isHouse 12 = .ok (.iconst 1, 1) := by decide +kernel
theorem dX12_isHouse_13 : decode cX12_isHouse 13 = .ok (.goto 4, 3) := by decide +kernel
theorem dX12_isHouse_16 : decode cX12_isHouse 16 = .ok (.iconst 0, 1) := by decide +kernel
theorem dX12_isHouse_17 : decode cX12_isHouse 17 = .ok (.ireturn, 1) := by decide +kernel
theorem dX12_isIn_0 : decode cX12_isIn 0 = .ok (.iload_n 1, 1) := by decide +kernel
theorem dX12_isIn_1 : decode cX12_isIn 1 = .ok (.iload_n 2, 1) := by decide +kernel
theorem dX12_isIn_2 : decode cX12_isIn 2 = .ok (.if_icmp .lt 12, 3) := by decide +kernel
theorem dX12_isIn_5 : decode cX12_isIn 5 = .ok (.iload_n 1, 1) := by decide +kernel
theorem dX12_isIn_6 : decode cX12_isIn 6 = .ok (.iload_n 3, 1) := by decide +kernel
theorem dX12_isIn_7 : decode cX12_isIn 7 = .ok (.if_icmp .gt 7, 3) := by decide +kernel
theorem dX12_isIn_10 : decode cX12_isIn 10 = .ok (.iconst 1, 1) := by decide +kernel
theorem dX12_isIn_11 : decode cX12_isIn 11 = .ok (.goto 4, 3) := by decide +kernel
theorem dX12_isIn_14 : decode cX12_isIn 14 = .ok (.iconst 0, 1) := by decide +kernel
theorem dX12_isIn_15 : decode cX12_isIn 15 = .ok (.ireturn, 1) := by decide +kernel
theorem dX12_isLetter_0 : decode cX12_isLetter 0 = .ok (.aload_n 0, 1) := by decide +kernel
theorem dX12_isLetter_1 : decode cX12_isLetter 1 = .ok (.iload_n 1, 1) := by decide +kernel
theorem dX12_isLetter_2 : decode cX12_isLetter 2 = .ok (.bipush 97, 2) := by decide +kernel
theorem dX12_isLetter_4 : decode cX12_isLetter 4 = .ok (.bipush 122, 2) := by decide +kernel
theorem dX12_isLetter_6 : decode cX12_isLetter 6 = .ok (.invokevirtual 151, 3) := by decide +kernel
theorem dX12_isLetter_9 : decode cX12_isLetter 9 = .ok (.ifCond .ne 15, 3) := by decide +kernel
theorem dX12_isLetter_12 : decode cX12_isLetter 12 = .ok (.aload_n 0, 1) := by decide +kernel
theorem dX12_isLetter_13 : decode cX12_isLetter 13 = .ok (.iload_n 1, 1) := by decide +kernel
theorem dX12_isLetter_14 : decode cX12_isLetter 14 = .ok (.bipush 65, 2) := by decide +kernel
theorem dX12_isLetter_16 : decode cX12_isLetter 16 = .ok (.bipush 90, 2) := by decide +kernel
theorem dX12_isLetter_18 : decode cX12_isLetter 18 = .ok (.invokevirtual 151, 3) := by decide +kernel
theorem dX12_isLetter_21 : decode cX12_isLetter 21 = .ok (.ifCond .eq 7, 3) := by decide +kernel
theorem dX12_isLetter_24 : decode cX12_isLetter 24 = .ok (.iconst 1, 1) := by decide +kernel
theorem dX12_isLetter_25 : decode cX12_isLetter 25 = .ok (.goto 4, 3) := by decide +kernel
theorem dX12_isLetter_28 : decode cX12_isLetter 28 = .ok (.iconst 0, 1) := by decide +kernel
theorem dX12_isLetter_29 : decode cX12_isLetter 29 = .ok (.ireturn, 1) := by decide +kernel
theorem dX12_isMarkSign_0 : decode cX12_isMarkSign 0 = .ok (.iload_n 1, 1) := by decide +kernel
theorem dX12_isMarkSign_1 : decode cX12_isMarkSign 1 = .ok (.bipush 59, 2) := by decide +kernel
theorem dX12_isMarkSign_3 : decode cX12_isMarkSign 3 = .ok (.if_icmp .eq 57, 3) := by decide +kernel
theorem dX12_isMarkSign_6 : decode cX12_isMarkSign 6 = .ok (.iload_n 1, 1) := by decide +kernel
theorem dX12_isMarkSign_7 : decode cX12_isMarkSign 7 = .ok (.bipush 43, 2) := by decide +kernel
theorem dX12_isMarkSign_9 : decode cX12_isMarkSign 9 = .ok (.if_icmp .eq 51, 3) := by decide +kernel
theorem dX12_isMarkSign_12 : decode cX12_isMarkSign 12 = .ok (.iload_n 1, 1) := by decide +kernel
theorem dX12_isMarkSign_13 : decode cX12_isMarkSign 13 = .ok (.bipush 45, 2) := by decide +kernel
theorem dX12_isMarkSign_15 : decode cX12_isMarkSign 15 = .ok (.if_icmp .eq 45, 3) := by decide +kernel
theorem dX12_isMarkSign_18 : decode cX12_isMarkSign 18 = .ok (.iload_n 1, 1) := by decide +kernel
theorem dX12_isMarkSign_19 : decode cX12_isMarkSign 19 = .ok (.bipush 42, 2) := by decide +kernel
theorem dX12_isMarkSign_21 : decode cX12_isMarkSign 21 = .ok (.if_icmp .eq 39, 3) := by decide +kernel
theorem dX12_isMarkSign_24 : decode cX12_isMarkSign 24 = .ok (.iload_n 1, 1) := by decide +kernel
theorem dX12_isMarkSign_25 : decode cX12_isMarkSign 25 = .ok (.bipush 47, 2) := by decide +kernel
theorem dX12_isMarkSign_27 : decode cX12_isMarkSign 27 = .ok (.if_icmp .eq 33, 3) := by decide +kernel
theorem dX12_isMarkSign_30 : decode cX12_isMarkSign 30 = .ok (.iload_n 1, 1) := by decide +kernel
theorem dX12_isMarkSign_31 : decode cX12_isMarkSign 31 = .ok (.bipush 40, 2) := by decide +kernel
theorem dX12_isMarkSign_33 : decode cX12_isMarkSign 33 = .ok (.if_icmp .eq 27, 3) := by decide +kernel
theorem dX12_isMarkSign_36 : decode cX12_isMarkSign 36 = .ok (.iload_n 1, 1) := by decide +kernel
theorem dX12_isMarkSign_37 : decode cX12_isMarkSign 37 = .ok (.bipush 41, 2) := by decide +kernel
theorem dX12_isMarkSign_39 : decode cX12_isMarkSign 39 = .ok (.if_icmp .eq 21, 3) := by decide +kernel
theorem dX12_isMarkSign_42 : decode cX12_isMarkSign 42 = .ok (.iload_n 1, 1) := by decide +kernel
theorem dX12_isMarkSign_43 : decode cX12_isMarkSign 43 = .ok (.bipush 60, 2) := by decide +kernel
theorem dX12_isMarkSign_45 : decode cX12_isMarkSign 45 = .ok (.if_icmp .eq 15, 3) := by decide +kernel
theorem dX12_isMarkSign_48 : decode cX12_isMarkSign 48 = .ok (.iload_n 1, 1) := by decide +kernel
theorem dX12_isMarkSign_49 : decode cX12_isMarkSign 49 = .ok (.bipush 61, 2) := by decide +kernel
theorem dX12_isMarkSign_51 : decode cX12_isMarkSign 51 = .ok (.if_icmp .eq 9, 3) := by decide +kernel
theorem dX12_isMarkSign_54 : decode cX12_isMarkSign 54 = .ok (.iload_n 1, 1) := by decide +kernel
theorem dX12_isMarkSign_55 : decode cX12_isMarkSign 55 = .ok (.bipush 62, 2) := by decide +kernel
theorem dX12_isMarkSign_57 : decode cX12_isMarkSign 57 = .ok (.if_icmp .ne 7, 3) := by decide +kernel
theorem dX12_isMarkSign_60 : decode cX12_isMarkSign 60 = .ok (.iconst 1, 1) := by decide +kernel
theorem dX12_isMarkSign_61 : decode cX12_isMarkSign 61 = .ok (.goto 4, 3) := by decide +kernel
theorem dX12_isMarkSign_64 : decode cX12_isMarkSign 64 = .ok (.iconst 0, 1) := by decide +kernel
theorem dX12_isMarkSign_65 : decode cX12_isMarkSign 65 = .ok (.ireturn, 1) := by decide +kernel
theorem dX12_isOpen_0 : decode cX12_isOpen 0 = .ok (.aload_n 0, 1) := by decide +kernel
theorem dX12_isOpen_1 : decode cX12_isOpen 1 = .ok (.getfield 7, 3) := by decide +kernel
theorem dX12_isOpen_4 : decode cX12_isOpen 4 = .ok (.bipush 46, 2) := by decide +kernel
theorem dX12_isOpen_6 : decode cX12_isOpen 6 = .ok (.iload_n 1, 1) := by decide +kernel
theorem dX12_isOpen_7 : decode cX12_isOpen 7 = .ok (.iadd, 1) := by decide +kernel
theorem dX12_isOpen_8 : decode cX12_isOpen 8 = .ok (.iaload, 1) := by decide +kernel
theorem dX12_isOpen_9 : decode cX12_isOpen 9 = .ok (.ifCond .ne 44, 3) := by decide +kernel
theorem dX12_isOpen_12 : decode cX12_isOpen 12 = .ok (.aload_n 0, 1) := by decide +kernel
theorem dX12_isOpen_13 : decode cX12_isOpen 13 = .ok (.getfield 7, 3) := by decide +kernel
theorem dX12_isOpen_16 : decode cX12_isOpen 16 = .ok (.bipush 56, 2) := by decide +kernel
theorem dX12_isOpen_18 : decode cX12_isOpen 18 = .ok (.iload_n 1, 1) := by decide +kernel
theorem dX12_isOpen_19 : decode cX12_isOpen 19 = .ok (.iadd, 1) := by decide +kernel
theorem dX12_isOpen_20 : decode cX12_isOpen 20 = .ok (.iaload, 1) := by decide +kernel
theorem dX12_isOpen_21 : decode cX12_isOpen 21 = .ok (.ifCond .ne 32, 3) := by decide +kernel
theorem dX12_isOpen_24 : decode cX12_isOpen 24 = .ok (.aload_n 0, 1) := by decide +kernel
theorem dX12_isOpen_25 : decode cX12_isOpen 25 = .ok (.aload_n 0, 1) := by decide +kernel
theorem dX12_isOpen_26 : decode cX12_isOpen 26 = .ok (.getfield 7, 3) := by decide +kernel
theorem dX12_isOpen_29 : decode cX12_isOpen 29 = .ok (.iconst 0, 1) := by decide +kernel
theorem dX12_isOpen_30 : decode cX12_isOpen 30 = .ok (.iaload, 1) := by decide +kernel
theorem dX12_isOpen_31 : decode cX12_isOpen 31 = .ok (.aload_n 0, 1) := by decide +kernel
theorem dX12_isOpen_32 : decode cX12_isOpen 32 = .ok (.iload_n 1, 1) := by decide +kernel
theorem dX12_isOpen_33 : decode cX12_isOpen 33 = .ok (.iconst 2, 1) := by decide +kernel
theorem dX12_isOpen_34 : decode cX12_isOpen 34 = .ok (.invokevirtual 356, 3) := by decide +kernel
theorem dX12_isOpen_37 : decode cX12_isOpen 37 = .ok (.aload_n 0, 1) := by decide +kernel
theorem dX12_isOpen_38 : decode cX12_isOpen 38 = .ok (.iload_n 1, 1) := by decide +kernel
theorem dX12_isOpen_39 : decode cX12_isOpen 39 = .ok (.iconst 3, 1) := by decide +kernel
theorem dX12_isOpen_40 : decode cX12_isOpen 40 = .ok (.invokevirtual 356, 3) := by decide +kernel
theorem dX12_isOpen_43 : decode cX12_isOpen 43 = .ok (.invokevirtual 151, 3) := by decide +kernel
theorem dX12_isOpen_46 : decode cX12_isOpen 46 = .ok (.ifCond .eq 7, 3) := by decide +kernel
theorem dX12_isOpen_49 : decode cX12_isOpen 49 = .ok (.iconst 1, 1) := by decide +kernel
theorem dX12_isOpen_50 : decode cX12_isOpen 50 = .ok (.goto 4, 3) := by decide +kernel
theorem dX12_isOpen_53 : decode cX12_isOpen 53 = .ok (.iconst 0, 1) := by decide +kernel
theorem dX12_isOpen_54 : decode cX12_isOpen 54 = .ok (.ireturn, 1) := by decide +kernel
theorem dX12_isReached_0 : decode cX12_isReached 0 = .ok (.iload_n 1, 1) := by decide +kernel
theorem dX12_isReached_1 : decode cX12_isReached 1 = .ok (.iload_n 2, 1) := by decide +kernel
theorem dX12_isReached_2 : decode cX12_isReached 2 = .ok (.if_icmp .eq 21, 3) := by decide +kernel
theorem dX12_isReached_5 : decode cX12_isReached 5 = .ok (.aload_n 0, 1) := by decide +kernel
theorem dX12_isReached_6 : decode cX12_isReached 6 = .ok (.getfield 101, 3) := by decide +kernel
theorem dX12_isReached_9 : decode cX12_isReached 9 = .ok (.bipush 10, 2) := by decide +kernel
theorem dX12_isReached_11 : decode cX12_isReached 11 = .ok (.iload_n 1, 1) := by decide +kernel
theorem dX12_isReached_12 : decode cX12_isReached 12 = .ok (.imul, 1) := by decide +kernel
theorem dX12_isReached_13 : decode cX12_isReached 13 = .ok (.iload_n 2, 1) := by decide +kernel
theorem dX12_isReached_14 : decode cX12_isReached 14 = .ok (.iadd, 1) := by decide +kernel
theorem dX12_isReached_15 : decode cX12_isReached 15 = .ok (.iaload, 1) := by decide +kernel
theorem dX12_isReached_16 : decode cX12_isReached 16 = .ok (.aload_n 0, 1) := by decide +kernel
theorem dX12_isReached_17 : decode cX12_isReached 17 = .ok (.invokevirtual 350, 3) := by decide +kernel
theorem dX12_isReached_20 : decode cX12_isReached 20 = .ok (.if_icmp .gt 7, 3) := by decide +kernel
theorem dX12_isReached_23 : decode cX12_isReached 23 = .ok (.iconst 1, 1) := by decide +kernel
theorem dX12_isReached_24 : decode cX12_isReached 24 = .ok (.goto 4, 3) := by decide +kernel
theorem dX12_isReached_27 : decode cX12_isReached 27 = .ok (.iconst 0, 1) := by decide +kernel
theorem dX12_isReached_28 : decode cX12_isReached 28 = .ok (.ireturn, 1) := by decide +kernel
theorem dX12_isSign_0 : decode cX12_isSign 0 = .ok (.aload_n 0, 1) := by decide +kernel
theorem dX12_isSign_1 : decode cX12_isSign 1 = .ok (.getfield 188, 3) := by decide +kernel
theorem dX12_isSign_4 : decode cX12_isSign 4 = .ok (.iconst 4, 1) := by decide +kernel
theorem dX12_isSign_5 : decode cX12_isSign 5 = .ok (.if_icmp .ne 15, 3) := by decide +kernel
theorem dX12_isSign_8 : decode cX12_isSign 8 = .ok (.aload_n 0, 1) := by decide +kernel
theorem dX12_isSign_9 : decode cX12_isSign 9 = .ok (.getfield 191, 3) := by decide +kernel
theorem dX12_isSign_12 : decode cX12_isSign 12 = .ok (.iload_n 1, 1) := by decide +kernel
theorem dX12_isSign_13 : decode cX12_isSign 13 = .ok (.if_icmp .ne 7, 3) := by decide +kernel
theorem dX12_isSign_16 : decode cX12_isSign 16 = .ok (.iconst 1, 1) := by decide +kernel
theorem dX12_isSign_17 : decode cX12_isSign 17 = .ok (.goto 4, 3) := by decide +kernel
theorem dX12_isSign_20 : decode cX12_isSign 20 = .ok (.iconst 0, 1) := by decide +kernel
theorem dX12_isSign_21 : decode cX12_isSign 21 = .ok (.ireturn, 1) := by decide +kernel
theorem dX12_isWord_0 : decode cX12_isWord 0 = .ok (.aload_n 0, 1) := by decide +kernel
theorem dX12_isWord_1 : decode cX12_isWord 1 = .ok (.getfield 188, 3) := by decide +kernel
theorem dX12_isWord_4 : decode cX12_isWord 4 = .ok (.iconst 2, 1) := by decide +kernel
theorem dX12_isWord_5 : decode cX12_isWord 5 = .ok (.if_icmp .ne 15, 3) := by decide +kernel
theorem dX12_isWord_8 : decode cX12_isWord 8 = .ok (.aload_n 0, 1) := by decide +kernel
theorem dX12_isWord_9 : decode cX12_isWord 9 = .ok (.getfield 191, 3) := by decide +kernel
theorem dX12_isWord_12 : decode cX12_isWord 12 = .ok (.iload_n 1, 1) := by decide +kernel
theorem dX12_isWord_13 : decode cX12_isWord 13 = .ok (.if_icmp .ne 7, 3) := by decide +kernel
theorem dX12_isWord_16 : decode cX12_isWord 16 = .ok (.iconst 1, 1) := by decide +kernel
theorem dX12_isWord_17 : decode cX12_isWord 17 = .ok (.goto 4, 3) := by decide +kernel
theorem dX12_isWord_20 : decode cX12_isWord 20 = .ok (.iconst 0, 1) := by decide +kernel
theorem dX12_isWord_21 : decode cX12_isWord 21 = .ok (.ireturn, 1) := by decide +kernel
theorem dX12_liars_0 : decode cX12_liars 0 = .ok (.aload_n 0, 1) := by decide +kernel
theorem dX12_liars_1 : decode cX12_liars 1 = .ok (.iconst 0, 1) := by decide +kernel
theorem dX12_liars_2 : decode cX12_liars 2 = .ok (.putfield 130, 3) := by decide +kernel
theorem dX12_liars_5 : decode cX12_liars 5 = .ok (.iconst 0, 1) := by decide +kernel
theorem dX12_liars_6 : decode cX12_liars 6 = .ok (.istore_n 1, 1) := by decide +kernel
theorem dX12_liars_7 : decode cX12_liars 7 = .ok (.iconst 0, 1) := by decide +kernel
theorem dX12_liars_8 : decode cX12_liars 8 = .ok (.istore_n 2, 1) := by decide +kernel
theorem dX12_liars_9 : decode cX12_liars 9 = .ok (.iload_n 2, 1) := by decide +kernel
theorem dX12_liars_10 : decode cX12_liars 10 = .ok (.aload_n 0, 1) := by decide +kernel
theorem dX12_liars_11 : decode cX12_liars 11 = .ok (.getfield 148, 3) := by decide +kernel
theorem dX12_liars_14 : decode cX12_liars 14 = .ok (.if_icmp .ge 33, 3) := by decide +kernel
theorem dX12_liars_17 : decode cX12_liars 17 = .ok (.aload_n 0, 1) := by decide +kernel
theorem dX12_liars_18 : decode cX12_liars 18 = .ok (.getfield 28, 3) := by decide +kernel
theorem dX12_liars_21 : decode cX12_liars 21 = .ok (.iload_n 2, 1) := by decide +kernel
theorem dX12_liars_22 : decode cX12_liars 22 = .ok (.iaload, 1) := by decide +kernel
theorem dX12_liars_23 : decode cX12_liars 23 = .ok (.aload_n 0, 1) := by decide +kernel
theorem dX12_liars_24 : decode cX12_liars 24 = .ok (.getfield 7, 3) := by decide +kernel
theorem dX12_liars_27 : decode cX12_liars 27 = .ok (.bipush 26, 2) := by decide +kernel
theorem dX12_liars_29 : decode cX12_liars 29 = .ok (.iload_n 2, 1) := by decide +kernel
theorem dX12_liars_30 : decode cX12_liars 30 = .ok (.iadd, 1) := by decide +kernel
theorem dX12_liars_31 : decode cX12_liars 31 = .ok (.iaload, 1) := by decide +kernel
theorem dX12_liars_32 : decode cX12_liars 32 = .ok (.if_icmp .eq 9, 3) := by decide +kernel
theorem dX12_liars_35 : decode cX12_liars 35 = .ok (.iload_n 1, 1) := by decide +kernel
theorem dX12_liars_36 : decode cX12_liars 36 = .ok (.iconst 1, 1) := by decide +kernel
theorem dX12_liars_37 : decode cX12_liars 37 = .ok (.iload_n 2, 1) := by decide +kernel
theorem dX12_liars_38 : decode cX12_liars 38 = .ok (.ishl, 1) := by decide +kernel
theorem dX12_liars_39 : decode cX12_liars 39 = .ok (.ior, 1) := by decide +kernel
theorem dX12_liars_40 : decode cX12_liars 40 = .ok (.istore_n 1, 1) := by decide +kernel
theorem dX12_liars_41 : decode cX12_liars 41 = .ok (.iinc 2 1, 3) := by decide +kernel
theorem dX12_liars_44 : decode cX12_liars 44 = .ok (.goto (-35), 3) := by decide +kernel
theorem dX12_liars_47 : decode cX12_liars 47 = .ok (.iload_n 1, 1) := by decide +kernel
theorem dX12_liars_48 : decode cX12_liars 48 = .ok (.ireturn, 1) := by decide +kernel
theorem dX12_look_0 : decode cX12_look 0 = .ok (.aload_n 0, 1) := by decide +kernel
theorem dX12_look_1 : decode cX12_look 1 = .ok (.iconst 0, 1) := by decide +kernel
theorem dX12_look_2 : decode cX12_look 2 = .ok (.putfield 130, 3) := by decide +kernel
theorem dX12_look_5 : decode cX12_look 5 = .ok (.iload_n 1, 1) := by decide +kernel
theorem dX12_look_6 : decode cX12_look 6 = .ok (.ifCond .ne 8, 3) := by decide +kernel
theorem dX12_look_9 : decode cX12_look 9 = .ok (.aload_n 0, 1) := by decide +kernel
theorem dX12_look_10 : decode cX12_look 10 = .ok (.getfield 148, 3) := by decide +kernel
theorem dX12_look_13 : decode cX12_look 13 = .ok (.ireturn, 1) := by decide +kernel
theorem dX12_look_14 : decode cX12_look 14 = .ok (.iload_n 1, 1) := by decide +kernel
theorem dX12_look_15 : decode cX12_look 15 = .ok (.iconst 1, 1) := by decide +kernel
theorem dX12_look_16 : decode cX12_look 16 = .ok (.if_icmp .ne 21, 3) := by decide +kernel
theorem dX12_look_19 : decode cX12_look 19 = .ok (.aload_n 0, 1) := by decide +kernel
theorem dX12_look_20 : decode cX12_look 20 = .ok (.getfield 148, 3) := by decide +kernel
theorem dX12_look_23 : decode cX12_look 23 = .ok (.ifCond .ne 7, 3) := by decide +kernel
theorem dX12_look_26 : decode cX12_look 26 = .ok (.iconst (-1), 1) := by decide +kernel
theorem dX12_look_27 : decode cX12_look 27 = .ok (.goto 9, 3) := by decide +kernel
theorem dX12_look_30 : decode cX12_look 30 = .ok (.aload_n 0, 1) := by decide +kernel
theorem dX12_look_31 : decode cX12_look 31 = .ok (.getfield 7, 3) := by decide +kernel
theorem dX12_look_34 : decode cX12_look 34 = .ok (.iconst 3, 1) := by decide +kernel
theorem dX12_look_35 : decode cX12_look 35 = .ok (.iaload, 1) := by decide +kernel
theorem dX12_look_36 : decode cX12_look 36 = .ok (.ireturn, 1) := by decide +kernel
theorem dX12_look_37 : decode cX12_look 37 = .ok (.iload_n 1, 1) := by decide +kernel
theorem dX12_look_38 : decode cX12_look 38 = .ok (.iconst 2, 1) := by decide +kernel
theorem dX12_look_39 : decode cX12_look 39 = .ok (.if_icmp .ne 10, 3) := by decide +kernel
theorem dX12_look_42 : decode cX12_look 42 = .ok (.aload_n 0, 1) := by decide +kernel
theorem dX12_look_43 : decode cX12_look 43 = .ok (.getfield 7, 3) := by decide +kernel
theorem dX12_look_46 : decode cX12_look 46 = .ok (.iconst 0, 1) := by decide +kernel
theorem dX12_look_47 : decode cX12_look 47 = .ok (.iaload, 1) := by decide +kernel
theorem dX12_look_48 : decode cX12_look 48 = .ok (.ireturn, 1) := by decide +kernel
theorem dX12_look_49 : decode cX12_look 49 = .ok (.iload_n 1, 1) := by decide +kernel
theorem dX12_look_50 : decode cX12_look 50 = .ok (.iconst 3, 1) := by decide +kernel
theorem dX12_look_51 : decode cX12_look 51 = .ok (.if_icmp .ne 10, 3) := by decide +kernel
theorem dX12_look_54 : decode cX12_look 54 = .ok (.aload_n 0, 1) := by decide +kernel
theorem dX12_look_55 : decode cX12_look 55 = .ok (.getfield 7, 3) := by decide +kernel
theorem dX12_look_58 : decode cX12_look 58 = .ok (.iconst 2, 1) := by decide +kernel
theorem dX12_look_59 : decode cX12_look 59 = .ok (.iaload, 1) := by decide +kernel
theorem dX12_look_60 : decode cX12_look 60 = .ok (.ireturn, 1) := by decide +kernel
theorem dX12_look_61 : decode cX12_look 61 = .ok (.iload_n 1, 1) := by decide +kernel
theorem dX12_look_62 : decode cX12_look 62 = .ok (.iconst 4, 1) := by decide +kernel
theorem dX12_look_63 : decode cX12_look 63 = .ok (.if_icmp .ne 10, 3) := by decide +kernel
theorem dX12_look_66 : decode cX12_look 66 = .ok (.aload_n 0, 1) := by decide +kernel
theorem dX12_look_67 : decode cX12_look 67 = .ok (.getfield 7, 3) := by decide +kernel
theorem dX12_look_70 : decode cX12_look 70 = .ok (.iconst 1, 1) := by decide +kernel
theorem dX12_look_71 : decode cX12_look 71 = .ok (.iaload, 1) := by decide +kernel
theorem dX12_look_72 : decode cX12_look 72 = .ok (.ireturn, 1) := by decide +kernel
theorem dX12_look_73 : decode cX12_look 73 = .ok (.iload_n 1, 1) := by decide +kernel
theorem dX12_look_74 : decode cX12_look 74 = .ok (.iconst 5, 1) := by decide +kernel
theorem dX12_look_75 : decode cX12_look 75 = .ok (.if_icmp .ne 8, 3) := by decide +kernel
theorem dX12_look_78 : decode cX12_look 78 = .ok (.aload_n 0, 1) := by decide +kernel
theorem dX12_look_79 : decode cX12_look 79 = .ok (.getfield 324, 3) := by decide +kernel
theorem dX12_look_82 : decode cX12_look 82 = .ok (.ireturn, 1) := by decide +kernel
theorem dX12_look_83 : decode cX12_look 83 = .ok (.iload_n 1, 1) := by decide +kernel
theorem dX12_look_84 : decode cX12_look 84 = .ok (.bipush 6, 2) := by decide +kernel
theorem dX12_look_86 : decode cX12_look 86 = .ok (.if_icmp .ne 8, 3) := by decide +kernel
theorem dX12_look_89 : decode cX12_look 89 = .ok (.aload_n 0, 1) := by decide +kernel
theorem dX12_look_90 : decode cX12_look 90 = .ok (.getfield 321, 3) := by decide +kernel
theorem dX12_look_93 : decode cX12_look 93 = .ok (.ireturn, 1) := by decide +kernel
theorem dX12_look_94 : decode cX12_look 94 = .ok (.iload_n 1, 1) := by decide +kernel
theorem dX12_look_95 : decode cX12_look 95 = .ok (.bipush 7, 2) := by decide +kernel
theorem dX12_look_97 : decode cX12_look 97 = .ok (.if_icmp .ne 15, 3) := by decide +kernel
theorem dX12_look_100 : decode cX12_look 100 = .ok (.aload_n 0, 1) := by decide +kernel
theorem dX12_look_101 : decode cX12_look 101 = .ok (.getfield 327, 3) := by decide +kernel
theorem dX12_look_104 : decode cX12_look 104 = .ok (.aload_n 0, 1) := by decide +kernel
theorem dX12_look_105 : decode cX12_look 105 = .ok (.getfield 7, 3) := by decide +kernel
theorem dX12_look_108 : decode cX12_look 108 = .ok (.iconst 5, 1) := by decide +kernel
theorem dX12_look_109 : decode cX12_look 109 = .ok (.iaload, 1) := by decide +kernel
theorem dX12_look_110 : decode cX12_look 110 = .ok (.isub, 1) := by decide +kernel
theorem dX12_look_111 : decode cX12_look 111 = .ok (.ireturn, 1) := by decide +kernel
theorem dX12_look_112 : decode cX12_look 112 = .ok (.iload_n 1, 1) := by decide +kernel
theorem dX12_look_113 : decode cX12_look 113 = .ok (.bipush 8, 2) := by decide +kernel
theorem dX12_look_115 : decode cX12_look 115 = .ok (.if_icmp .ne 10, 3) := by decide +kernel
theorem dX12_look_118 : decode cX12_look 118 = .ok (.aload_n 0, 1) := by decide +kernel
theorem dX12_look_119 : decode cX12_look 119 = .ok (.getfield 49, 3) := by decide +kernel
theorem dX12_look_122 : decode cX12_look 122 = .ok (.iconst 0, 1) := by decide +kernel
theorem dX12_look_123 : decode cX12_look 123 = .ok (.iaload, 1) := by decide +kernel
theorem dX12_look_124 : decode cX12_look 124 = .ok (.ireturn, 1) := by decide +kernel
theorem dX12_look_125 : decode cX12_look 125 = .ok (.iload_n 1, 1) := by decide +kernel
theorem dX12_look_126 : decode cX12_look 126 = .ok (.bipush 9, 2) := by decide +kernel
theorem dX12_look_128 : decode cX12_look 128 = .ok (.if_icmp .ne 10, 3) := by decide +kernel
theorem dX12_look_131 : decode cX12_look 131 = .ok (.aload_n 0, 1) := by decide +kernel
theorem dX12_look_132 : decode cX12_look 132 = .ok (.getfield 49, 3) := by decide +kernel
theorem dX12_look_135 : decode cX12_look 135 = .ok (.iconst 1, 1) := by decide +kernel
theorem dX12_look_136 : decode cX12_look 136 = .ok (.iaload, 1) := by decide +kernel
theorem dX12_look_137 : decode cX12_look 137 = .ok (.ireturn, 1) := by decide +kernel
theorem dX12_look_138 : decode cX12_look 138 = .ok (.iload_n 1, 1) := by decide +kernel
theorem dX12_look_139 : decode cX12_look 139 = .ok (.bipush 10, 2) := by decide +kernel
theorem dX12_look_141 : decode cX12_look 141 = .ok (.if_icmp .ne 8, 3) := by decide +kernel
theorem dX12_look_144 : decode cX12_look 144 = .ok (.aload_n 0, 1) := by decide +kernel
theorem dX12_look_145 : decode cX12_look 145 = .ok (.getfield 517, 3) := by decide +kernel
theorem dX12_look_148 : decode cX12_look 148 = .ok (.ireturn, 1) := by decide +kernel
theorem dX12_look_149 : decode cX12_look 149 = .ok (.iload_n 1, 1) := by decide +kernel
theorem dX12_look_150 : decode cX12_look 150 = .ok (.bipush 11, 2) := by decide +kernel
theorem dX12_look_152 : decode cX12_look 152 = .ok (.if_icmp .ne 8, 3) := by decide +kernel
theorem dX12_look_155 : decode cX12_look 155 = .ok (.aload_n 0, 1) := by decide +kernel
theorem dX12_look_156 : decode cX12_look 156 = .ok (.getfield 133, 3) := by decide +kernel
theorem dX12_look_159 : decode cX12_look 159 = .ok (.ireturn, 1) := by decide +kernel
theorem dX12_look_160 : decode cX12_look 160 = .ok (.iload_n 1, 1) := by decide +kernel
theorem dX12_look_161 : decode cX12_look 161 = .ok (.bipush 20, 2) := by decide +kernel
theorem dX12_look_163 : decode cX12_look 163 = .ok (.if_icmp .ne 10, 3) := by decide +kernel
theorem dX12_look_166 : decode cX12_look 166 = .ok (.aload_n 0, 1) := by decide +kernel
theorem dX12_look_167 : decode cX12_look 167 = .ok (.getfield 7, 3) := by decide +kernel
theorem dX12_look_170 : decode cX12_look 170 = .ok (.iconst 4, 1) := by decide +kernel
theorem dX12_look_171 : decode cX12_look 171 = .ok (.iaload, 1) := by decide +kernel
theorem dX12_look_172 : decode cX12_look 172 = .ok (.ireturn, 1) := by decide +kernel
theorem dX12_look_173 : decode cX12_look 173 = .ok (.iload_n 1, 1) := by decide +kernel
theorem dX12_look_174 : decode cX12_look 174 = .ok (.bipush 21, 2) := by decide +kernel
theorem dX12_look_176 : decode cX12_look 176 = .ok (.if_icmp .ne 8, 3) := by decide +kernel
theorem dX12_look_179 : decode cX12_look 179 = .ok (.aload_n 0, 1) := by decide +kernel
theorem dX12_look_180 : decode cX12_look 180 = .ok (.getfield 166, 3) := by decide +kernel
theorem dX12_look_183 : decode cX12_look 183 = .ok (.ireturn, 1) := by decide +kernel
theorem dX12_look_184 : decode cX12_look 184 = .ok (.iload_n 1, 1) := by decide +kernel
theorem dX12_look_185 : decode cX12_look 185 = .ok (.bipush 22, 2) := by decide +kernel
theorem dX12_look_187 : decode cX12_look 187 = .ok (.if_icmp .ne 8, 3) := by decide +kernel
theorem dX12_look_190 : decode cX12_look 190 = .ok (.aload_n 0, 1) := by decide +kernel
theorem dX12_look_191 : decode cX12_look 191 = .ok (.getfield 169, 3) := by decide +kernel
theorem dX12_look_194 : decode cX12_look 194 = .ok (.ireturn, 1) := by decide +kernel
theorem dX12_look_195 : decode cX12_look 195 = .ok (.iload_n 1, 1) := by decide +kernel
theorem dX12_look_196 : decode cX12_look 196 = .ok (.bipush 23, 2) := by decide +kernel
theorem dX12_look_198 : decode cX12_look 198 = .ok (.if_icmp .ne 10, 3) := by decide +kernel
theorem dX12_look_201 : decode cX12_look 201 = .ok (.aload_n 0, 1) := by decide +kernel
theorem dX12_look_202 : decode cX12_look 202 = .ok (.invokevirtual 350, 3) := by decide +kernel
theorem dX12_look_205 : decode cX12_look 205 = .ok (.goto 19, 3) := by decide +kernel
theorem dX12_look_208 : decode cX12_look 208 = .ok (.iload_n 1, 1) := by decide +kernel
theorem dX12_look_209 : decode cX12_look 209 = .ok (.bipush 24, 2) := by decide +kernel
theorem dX12_look_211 : decode cX12_look 211 = .ok (.if_icmp .ne 10, 3) := by decide +kernel
theorem dX12_look_214 : decode cX12_look 214 = .ok (.aload_n 0, 1) := by decide +kernel
theorem dX12_look_215 : decode cX12_look 215 = .ok (.invokevirtual 384, 3) := by decide +kernel
theorem dX12_look_218 : decode cX12_look 218 = .ok (.goto 6, 3) := by decide +kernel
theorem dX12_look_221 : decode cX12_look 221 = .ok (.sipush (-1000), 3) := by decide +kernel
theorem dX12_look_224 : decode cX12_look 224 = .ok (.ireturn, 1) := by decide +kernel
theorem dX12_mostOf_0 : decode cX12_mostOf 0 = .ok (.iload_n 1, 1) := by decide +kernel
theorem dX12_mostOf_1 : decode cX12_mostOf 1 = .ok (.ifCond .ne 6, 3) := by decide +kernel
theorem dX12_mostOf_4 : decode cX12_mostOf 4 = .ok (.bipush 9, 2) := by decide +kernel
theorem dX12_mostOf_6 : decode cX12_mostOf 6 = .ok (.ireturn, 1) := by decide +kernel
theorem dX12_mostOf_7 : decode cX12_mostOf 7 = .ok (.iload_n 1, 1) := by decide +kernel
theorem dX12_mostOf_8 : decode cX12_mostOf 8 = .ok (.iconst 1, 1) := by decide +kernel
theorem dX12_mostOf_9 : decode cX12_mostOf 9 = .ok (.if_icmp .ne 7, 3) := by decide +kernel
theorem dX12_mostOf_12 : decode cX12_mostOf 12 = .ok (.sipush 1000, 3) := by decide +kernel
theorem dX12_mostOf_15 : decode cX12_mostOf 15 = .ok (.ireturn, 1) := by decide +kernel
theorem dX12_mostOf_16 : decode cX12_mostOf 16 = .ok (.iload_n 1, 1) := by decide +kernel
theorem dX12_mostOf_17 : decode cX12_mostOf 17 = .ok (.iconst 5, 1) := by decide +kernel
theorem dX12_mostOf_18 : decode cX12_mostOf 18 = .ok (.if_icmp .ne 10, 3) := by decide +kernel
theorem dX12_mostOf_21 : decode cX12_mostOf 21 = .ok (.aload_n 0, 1) := by decide +kernel
theorem dX12_mostOf_22 : decode cX12_mostOf 22 = .ok (.getfield 148, 3) := by decide +kernel
theorem dX12_mostOf_25 : decode cX12_mostOf 25 = .ok (.iconst 1, 1) := by decide +kernel
theorem dX12_mostOf_26 : decode cX12_mostOf 26 = .ok (.isub, 1) := by decide +kernel
theorem dX12_mostOf_27 : decode cX12_mostOf 27 = .ok (.ireturn, 1) := by decide +kernel
theorem dX12_mostOf_28 : decode cX12_mostOf 28 = .ok (.iload_n 1, 1) := by decide +kernel
theorem dX12_mostOf_29 : decode cX12_mostOf 29 = .ok (.bipush 6, 2) := by decide +kernel
theorem dX12_mostOf_31 : decode cX12_mostOf 31 = .ok (.if_icmp .ne 6, 3) := by decide +kernel
theorem dX12_mostOf_34 : decode cX12_mostOf 34 = .ok (.bipush 20, 2) := by decide +kernel
theorem dX12_mostOf_36 : decode cX12_mostOf 36 = .ok (.ireturn, 1) := by decide +kernel
theorem dX12_mostOf_37 : decode cX12_mostOf 37 = .ok (.iload_n 1, 1) := by decide +kernel
theorem dX12_mostOf_38 : decode cX12_mostOf 38 = .ok (.bipush 7, 2) := by decide +kernel
theorem dX12_mostOf_40 : decode cX12_mostOf 40 = .ok (.if_icmp .ne 9, 3) := by decide +kernel
theorem dX12_mostOf_43 : decode cX12_mostOf 43 = .ok (.sipush 999, 3) := by decide +kernel
theorem dX12_mostOf_46 : decode cX12_mostOf 46 = .ok (.goto 17, 3) := by decide +kernel
theorem dX12_mostOf_49 : decode cX12_mostOf 49 = .ok (.iload_n 1, 1) := by decide +kernel
theorem dX12_mostOf_50 : decode cX12_mostOf 50 = .ok (.bipush 10, 2) := by decide +kernel
theorem dX12_mostOf_52 : decode cX12_mostOf 52 = .ok (.if_icmp .ne 9, 3) := by decide +kernel
theorem dX12_mostOf_55 : decode cX12_mostOf 55 = .ok (.sipush 9999, 3) := by decide +kernel
theorem dX12_mostOf_58 : decode cX12_mostOf 58 = .ok (.goto 5, 3) := by decide +kernel
theorem dX12_mostOf_61 : decode cX12_mostOf 61 = .ok (.bipush 99, 2) := by decide +kernel
theorem dX12_mostOf_63 : decode cX12_mostOf 63 = .ok (.ireturn, 1) := by decide +kernel
theorem dX12_need_0 : decode cX12_need 0 = .ok (.aload_n 0, 1) := by decide +kernel
theorem dX12_need_1 : decode cX12_need 1 = .ok (.iconst 0, 1) := by decide +kernel
theorem dX12_need_2 : decode cX12_need 2 = .ok (.putfield 130, 3) := by decide +kernel
theorem dX12_need_5 : decode cX12_need 5 = .ok (.aload_n 0, 1) := by decide +kernel
theorem dX12_need_6 : decode cX12_need 6 = .ok (.iload_n 1, 1) := by decide +kernel
theorem dX12_need_7 : decode cX12_need 7 = .ok (.iconst 0, 1) := by decide +kernel
theorem dX12_need_8 : decode cX12_need 8 = .ok (.aload_n 0, 1) := by decide +kernel
theorem dX12_need_9 : decode cX12_need 9 = .ok (.getfield 324, 3) := by decide +kernel
theorem dX12_need_12 : decode cX12_need 12 = .ok (.iconst 1, 1) := by decide +kernel
theorem dX12_need_13 : decode cX12_need 13 = .ok (.isub, 1) := by decide +kernel
theorem dX12_need_14 : decode cX12_need 14 = .ok (.invokevirtual 151, 3) := by decide +kernel
theorem dX12_need_17 : decode cX12_need 17 = .ok (.ifCond .eq 14, 3) := by decide +kernel
theorem dX12_need_20 : decode cX12_need 20 = .ok (.aload_n 0, 1) := by decide +kernel
theorem dX12_need_21 : decode cX12_need 21 = .ok (.iload_n 2, 1) := by decide +kernel
theorem dX12_need_22 : decode cX12_need 22 = .ok (.iconst 0, 1) := by decide +kernel
theorem dX12_need_23 : decode cX12_need 23 = .ok (.bipush 7, 2) := by decide +kernel
theorem dX12_need_25 : decode cX12_need 25 = .ok (.invokevirtual 151, 3) := by decide +kernel
theorem dX12_need_28 : decode cX12_need 28 = .ok (.ifCond .ne 6, 3) := by decide +kernel
theorem dX12_need_31 : decode cX12_need 31 = .ok (.bipush (-2), 2) := by decide +kernel
theorem dX12_need_33 : decode cX12_need 33 = .ok (.ireturn, 1) := by decide +kernel
theorem dX12_need_34 : decode cX12_need 34 = .ok (.iload_n 2, 1) := by decide +kernel
theorem dX12_need_35 : decode cX12_need 35 = .ok (.iconst 5, 1) := by decide +kernel
theorem dX12_need_36 : decode cX12_need 36 = .ok (.if_icmp .ge 10, 3) := by decide +kernel
theorem dX12_need_39 : decode cX12_need 39 = .ok (.aload_n 0, 1) := by decide +kernel
theorem dX12_need_40 : decode cX12_need 40 = .ok (.iload_n 1, 1) := by decide +kernel
theorem dX12_need_41 : decode cX12_need 41 = .ok (.iload_n 2, 1) := by decide +kernel
theorem dX12_need_42 : decode cX12_need 42 = .ok (.invokevirtual 356, 3) := by decide +kernel
theorem dX12_need_45 : decode cX12_need 45 = .ok (.ireturn, 1) := by decide +kernel
theorem dX12_need_46 : decode cX12_need 46 = .ok (.iload_n 2, 1) := by decide +kernel
theorem dX12_need_47 : decode cX12_need 47 = .ok (.iconst 5, 1) := by decide +kernel
theorem dX12_need_48 : decode cX12_need 48 = .ok (.if_icmp .ne 17, 3) := by decide +kernel
theorem dX12_need_51 : decode cX12_need 51 = .ok (.aload_n 0, 1) := by decide +kernel
theorem dX12_need_52 : decode cX12_need 52 = .ok (.getfield 7, 3) := by decide +kernel
theorem dX12_need_55 : decode cX12_need 55 = .ok (.bipush 46, 2) := by decide +kernel
theorem dX12_need_57 : decode cX12_need 57 = .ok (.iload_n 1, 1) := by decide +kernel
theorem dX12_need_58 : decode cX12_need 58 = .ok (.iadd, 1) := by decide +kernel
theorem dX12_need_59 : decode cX12_need 59 = .ok (.iaload, 1) := by decide +kernel
theorem dX12_need_60 : decode cX12_need 60 = .ok (.iconst 1, 1) := by decide +kernel
theorem dX12_need_61 : decode cX12_need 61 = .ok (.isub, 1) := by decide +kernel
theorem dX12_need_62 : decode cX12_need 62 = .ok (.goto 34, 3) := by decide +kernel
theorem dX12_need_65 : decode cX12_need 65 = .ok (.iload_n 2, 1) := by decide +kernel
theorem dX12_need_66 : decode cX12_need 66 = .ok (.bipush 6, 2) := by decide +kernel
theorem dX12_need_68 : decode cX12_need 68 = .ok (.if_icmp .ne 15, 3) := by decide +kernel
theorem dX12_need_71 : decode cX12_need 71 = .ok (.aload_n 0, 1) := by decide +kernel
theorem dX12_need_72 : decode cX12_need 72 = .ok (.getfield 7, 3) := by decide +kernel
theorem dX12_need_75 : decode cX12_need 75 = .ok (.bipush 56, 2) := by decide +kernel
theorem dX12_need_77 : decode cX12_need 77 = .ok (.iload_n 1, 1) := by decide +kernel
theorem dX12_need_78 : decode cX12_need 78 = .ok (.iadd, 1) := by decide +kernel
theorem dX12_need_79 : decode cX12_need 79 = .ok (.iaload, 1) := by decide +kernel
theorem dX12_need_80 : decode cX12_need 80 = .ok (.goto 16, 3) := by decide +kernel
theorem dX12_need_83 : decode cX12_need 83 = .ok (.aload_n 0, 1) := by decide +kernel
theorem dX12_need_84 : decode cX12_need 84 = .ok (.iload_n 1, 1) := by decide +kernel
theorem dX12_need_85 : decode cX12_need 85 = .ok (.invokevirtual 359, 3) := by decide +kernel
theorem dX12_need_88 : decode cX12_need 88 = .ok (.ifCond .eq 7, 3) := by decide +kernel
theorem dX12_need_91 : decode cX12_need 91 = .ok (.iconst 1, 1) := by decide +kernel
theorem dX12_need_92 : decode cX12_need 92 = .ok (.goto 4, 3) := by decide +kernel
theorem dX12_need_95 : decode cX12_need 95 = .ok (.iconst 0, 1) := by decide +kernel
theorem dX12_need_96 : decode cX12_need 96 = .ok (.ireturn, 1) := by decide +kernel
theorem dX12_notes_0 : decode cX12_notes 0 = .ok (.aload_n 0, 1) := by decide +kernel
theorem dX12_notes_1 : decode cX12_notes 1 = .ok (.getfield 136, 3) := by decide +kernel
theorem dX12_notes_4 : decode cX12_notes 4 = .ok (.ifCond .ne 15, 3) := by decide +kernel
theorem dX12_notes_7 : decode cX12_notes 7 = .ok (.aload_n 0, 1) := by decide +kernel
theorem dX12_notes_8 : decode cX12_notes 8 = .ok (.getfield 7, 3) := by decide +kernel
theorem dX12_notes_11 : decode cX12_notes 11 = .ok (.iconst 2, 1) := by decide +kernel
theorem dX12_notes_12 : decode cX12_notes 12 = .ok (.iaload, 1) := by decide +kernel
theorem dX12_notes_13 : decode cX12_notes 13 = .ok (.sipush 150, 3) := by decide +kernel
theorem dX12_notes_16 : decode cX12_notes 16 = .ok (.if_icmp .ne 4, 3) := by decide +kernel
theorem dX12_notes_19 : decode cX12_notes 19 = .ok (.return_, 1) := by decide +kernel
theorem dX12_notes_20 : decode cX12_notes 20 = .ok (.bipush 6, 2) := by decide +kernel
theorem dX12_notes_22 : decode cX12_notes 22 = .ok (.aload_n 0, 1) := by decide +kernel
theorem dX12_notes_23 : decode cX12_notes 23 = .ok (.getfield 7, 3) := by decide +kernel
theorem dX12_notes_26 : decode cX12_notes 26 = .ok (.iconst 2, 1) := by decide +kernel
theorem dX12_notes_27 : decode cX12_notes 27 = .ok (.iaload, 1) := by decide +kernel
theorem dX12_notes_28 : decode cX12_notes 28 = .ok (.imul, 1) := by decide +kernel
theorem dX12_notes_29 : decode cX12_notes 29 = .ok (.istore 5, 2) := by decide +kernel
theorem dX12_notes_31 : decode cX12_notes 31 = .ok (.aload_n 0, 1) := by decide +kernel
theorem dX12_notes_32 : decode cX12_notes 32 = .ok (.getfield 34, 3) := by decide +kernel
theorem dX12_notes_35 : decode cX12_notes 35 = .ok (.iload 5, 2) := by decide +kernel
theorem dX12_notes_37 : decode cX12_notes 37 = .ok (.aload_n 0, 1) := by decide +kernel
theorem dX12_notes_38 : decode cX12_notes 38 = .ok (.getfield 7, 3) := by decide +kernel
theorem dX12_notes_41 : decode cX12_notes 41 = .ok (.iconst 0, 1) := by decide +kernel
theorem dX12_notes_42 : decode cX12_notes 42 = .ok (.iaload, 1) := by decide +kernel
theorem dX12_notes_43 : decode cX12_notes 43 = .ok (.iastore, 1) := by decide +kernel
theorem dX12_notes_44 : decode cX12_notes 44 = .ok (.aload_n 0, 1) := by decide +kernel
theorem dX12_notes_45 : decode cX12_notes 45 = .ok (.getfield 34, 3) := by decide +kernel
theorem dX12_notes_48 : decode cX12_notes 48 = .ok (.iload 5, 2) := by decide +kernel
theorem dX12_notes_50 : decode cX12_notes 50 = .ok (.iconst 1, 1) := by decide +kernel
theorem dX12_notes_51 : decode cX12_notes 51 = .ok (.iadd, 1) := by decide +kernel
theorem dX12_notes_52 : decode cX12_notes 52 = .ok (.iload_n 1, 1) := by decide +kernel
theorem dX12_notes_53 : decode cX12_notes 53 = .ok (.iastore, 1) := by decide +kernel
theorem dX12_notes_54 : decode cX12_notes 54 = .ok (.aload_n 0, 1) := by decide +kernel
theorem dX12_notes_55 : decode cX12_notes 55 = .ok (.getfield 34, 3) := by decide +kernel
theorem dX12_notes_58 : decode cX12_notes 58 = .ok (.iload 5, 2) := by decide +kernel
theorem dX12_notes_60 : decode cX12_notes 60 = .ok (.iconst 2, 1) := by decide +kernel
theorem dX12_notes_61 : decode cX12_notes 61 = .ok (.iadd, 1) := by decide +kernel
theorem dX12_notes_62 : decode cX12_notes 62 = .ok (.iload_n 2, 1) := by decide +kernel
theorem dX12_notes_63 : decode cX12_notes 63 = .ok (.ifCond .eq 7, 3) := by decide +kernel
theorem dX12_notes_66 : decode cX12_notes 66 = .ok (.iconst 1, 1) := by decide +kernel
theorem dX12_notes_67 : decode cX12_notes 67 = .ok (.goto 4, 3) := by decide +kernel
theorem dX12_notes_70 : decode cX12_notes 70 = .ok (.iconst 0, 1) := by decide +kernel
theorem dX12_notes_71 : decode cX12_notes 71 = .ok (.iastore, 1) := by decide +kernel
theorem dX12_notes_72 : decode cX12_notes 72 = .ok (.aload_n 0, 1) := by decide +kernel
theorem dX12_notes_73 : decode cX12_notes 73 = .ok (.getfield 34, 3) := by decide +kernel
theorem dX12_notes_76 : decode cX12_notes 76 = .ok (.iload 5, 2) := by decide +kernel
theorem dX12_notes_78 : decode cX12_notes 78 = .ok (.iconst 3, 1) := by decide +kernel
theorem dX12_notes_79 : decode cX12_notes 79 = .ok (.iadd, 1) := by decide +kernel
theorem dX12_notes_80 : decode cX12_notes 80 = .ok (.iload_n 3, 1) := by decide +kernel
theorem dX12_notes_81 : decode cX12_notes 81 = .ok (.iastore, 1) := by decide +kernel
theorem dX12_notes_82 : decode cX12_notes 82 = .ok (.aload_n 0, 1) := by decide +kernel
theorem dX12_notes_83 : decode cX12_notes 83 = .ok (.getfield 34, 3) := by decide +kernel
theorem dX12_notes_86 : decode cX12_notes 86 = .ok (.iload 5, 2) := by decide +kernel
theorem dX12_notes_88 : decode cX12_notes 88 = .ok (.iconst 4, 1) := by decide +kernel
theorem dX12_notes_89 : decode cX12_notes 89 = .ok (.iadd, 1) := by decide +kernel
theorem dX12_notes_90 : decode cX12_notes 90 = .ok (.aload_n 0, 1) := by decide +kernel
theorem dX12_notes_91 : decode cX12_notes 91 = .ok (.getfield 7, 3) := by decide +kernel
theorem dX12_notes_94 : decode cX12_notes 94 = .ok (.iconst 4, 1) := by decide +kernel
theorem dX12_notes_95 : decode cX12_notes 95 = .ok (.iaload, 1) := by decide +kernel
theorem dX12_notes_96 : decode cX12_notes 96 = .ok (.iastore, 1) := by decide +kernel
theorem dX12_notes_97 : decode cX12_notes 97 = .ok (.aload_n 0, 1) := by decide +kernel
theorem dX12_notes_98 : decode cX12_notes 98 = .ok (.getfield 34, 3) := by decide +kernel
theorem dX12_notes_101 : decode cX12_notes 101 = .ok (.iload 5, 2) := by decide +kernel
theorem dX12_notes_103 : decode cX12_notes 103 = .ok (.iconst 5, 1) := by decide +kernel
theorem dX12_notes_104 : decode cX12_notes 104 = .ok (.iadd, 1) := by decide +kernel
theorem dX12_notes_105 : decode cX12_notes 105 = .ok (.iload 4, 2) := by decide +kernel
theorem dX12_notes_107 : decode cX12_notes 107 = .ok (.iastore, 1) := by decide +kernel
theorem dX12_notes_108 : decode cX12_notes 108 = .ok (.aload_n 0, 1) := by decide +kernel
theorem dX12_notes_109 : decode cX12_notes 109 = .ok (.getfield 7, 3) := by decide +kernel
theorem dX12_notes_112 : decode cX12_notes 112 = .ok (.iconst 2, 1) := by decide +kernel
theorem dX12_notes_113 : decode cX12_notes 113 = .ok (.aload_n 0, 1) := by decide +kernel
theorem dX12_notes_114 : decode cX12_notes 114 = .ok (.getfield 7, 3) := by decide +kernel
theorem dX12_notes_117 : decode cX12_notes 117 = .ok (.iconst 2, 1) := by decide +kernel
theorem dX12_notes_118 : decode cX12_notes 118 = .ok (.iaload, 1) := by decide +kernel
theorem dX12_notes_119 : decode cX12_notes 119 = .ok (.iconst 1, 1) := by decide +kernel
theorem dX12_notes_120 : decode cX12_notes 120 = .ok (.iadd, 1) := by decide +kernel
theorem dX12_notes_121 : decode cX12_notes 121 = .ok (.iastore, 1) := by decide +kernel
theorem dX12_notes_122 : decode cX12_notes 122 = .ok (.return_, 1) := by decide +kernel
theorem dX12_ofNeed_0 : decode cX12_ofNeed 0 = .ok (.aload_n 0, 1) := by decide +kernel
theorem dX12_ofNeed_1 : decode cX12_ofNeed 1 = .ok (.getfield 77, 3) := by decide +kernel
theorem dX12_ofNeed_4 : decode cX12_ofNeed 4 = .ok (.iconst 5, 1) := by decide +kernel
theorem dX12_ofNeed_5 : decode cX12_ofNeed 5 = .ok (.iload_n 1, 1) := by decide +kernel
theorem dX12_ofNeed_6 : decode cX12_ofNeed 6 = .ok (.imul, 1) := by decide +kernel
theorem dX12_ofNeed_7 : decode cX12_ofNeed 7 = .ok (.iload_n 2, 1) := by decide +kernel
theorem dX12_ofNeed_8 : decode cX12_ofNeed 8 = .ok (.iadd, 1) := by decide +kernel
theorem dX12_ofNeed_9 : decode cX12_ofNeed 9 = .ok (.iaload, 1) := by decide +kernel
theorem dX12_ofNeed_10 : decode cX12_ofNeed 10 = .ok (.ireturn, 1) := by decide +kernel
theorem dX12_owes_0 : decode cX12_owes 0 = .ok (.iconst 0, 1) := by decide +kernel
theorem dX12_owes_1 : decode cX12_owes 1 = .ok (.istore_n 1, 1) := by decide +kernel
theorem dX12_owes_2 : decode cX12_owes 2 = .ok (.iload_n 1, 1) := by decide +kernel
theorem dX12_owes_3 : decode cX12_owes 3 = .ok (.aload_n 0, 1) := by decide +kernel
theorem dX12_owes_4 : decode cX12_owes 4 = .ok (.getfield 148, 3) := by decide +kernel
theorem dX12_owes_7 : decode cX12_owes 7 = .ok (.if_icmp .ge 55, 3) := by decide +kernel
theorem dX12_owes_10 : decode cX12_owes 10 = .ok (.aload_n 0, 1) := by decide +kernel
theorem dX12_owes_11 : decode cX12_owes 11 = .ok (.iload_n 1, 1) := by decide +kernel
theorem dX12_owes_12 : decode cX12_owes 12 = .ok (.invokevirtual 362, 3) := by decide +kernel
theorem dX12_owes_15 : decode cX12_owes 15 = .ok (.istore_n 2, 1) := by decide +kernel
theorem dX12_owes_16 : decode cX12_owes 16 = .ok (.iload_n 2, 1) := by decide +kernel
theorem dX12_owes_17 : decode cX12_owes 17 = .ok (.ifCond .le 39, 3) := by decide +kernel
theorem dX12_owes_20 : decode cX12_owes 20 = .ok (.iload_n 2, 1) := by decide +kernel
theorem dX12_owes_21 : decode cX12_owes 21 = .ok (.aload_n 0, 1) := by decide +kernel
theorem dX12_owes_22 : decode cX12_owes 22 = .ok (.invokevirtual 384, 3) := by decide +kernel
theorem dX12_owes_25 : decode cX12_owes 25 = .ok (.irem, 1) := by decide +kernel
theorem dX12_owes_26 : decode cX12_owes 26 = .ok (.ifCond .ne 30, 3) := by decide +kernel
theorem dX12_owes_29 : decode cX12_owes 29 = .ok (.aload_n 0, 1) := by decide +kernel
theorem dX12_owes_30 : decode cX12_owes 30 = .ok (.getfield 7, 3) := by decide +kernel
theorem dX12_owes_33 : decode cX12_owes 33 = .ok (.bipush 16, 2) := by decide +kernel
theorem dX12_owes_35 : decode cX12_owes 35 = .ok (.iload_n 1, 1) := by decide +kernel
theorem dX12_owes_36 : decode cX12_owes 36 = .ok (.iadd, 1) := by decide +kernel
theorem dX12_owes_37 : decode cX12_owes 37 = .ok (.aload_n 0, 1) := by decide +kernel
theorem dX12_owes_38 : decode cX12_owes 38 = .ok (.aload_n 0, 1) := by decide +kernel
theorem dX12_owes_39 : decode cX12_owes 39 = .ok (.getfield 7, 3) := by decide +kernel
theorem dX12_owes_42 : decode cX12_owes 42 = .ok (.bipush 16, 2) := by decide +kernel
theorem dX12_owes_44 : decode cX12_owes 44 = .ok (.iload_n 1, 1) := by decide +kernel
theorem dX12_owes_45 : decode cX12_owes 45 = .ok (.iadd, 1) := by decide +kernel
theorem dX12_owes_46 : decode cX12_owes 46 = .ok (.iaload, 1) := by decide +kernel
theorem dX12_owes_47 : decode cX12_owes 47 = .ok (.iconst 1, 1) := by decide +kernel
theorem dX12_owes_48 : decode cX12_owes 48 = .ok (.iadd, 1) := by decide +kernel
theorem dX12_owes_49 : decode cX12_owes 49 = .ok (.iconst 0, 1) := by decide +kernel
theorem dX12_owes_50 : decode cX12_owes 50 = .ok (.bipush 99, 2) := by decide +kernel
theorem dX12_owes_52 : decode cX12_owes 52 = .ok (.invokevirtual 374, 3) := by decide +kernel
theorem dX12_owes_55 : decode cX12_owes 55 = .ok (.iastore, 1) := by decide +kernel
theorem dX12_owes_56 : decode cX12_owes 56 = .ok (.iinc 1 1, 3) := by decide +kernel
theorem dX12_owes_59 : decode cX12_owes 59 = .ok (.goto (-57), 3) := by decide +kernel
theorem dX12_owes_62 : decode cX12_owes 62 = .ok (.return_, 1) := by decide +kernel
theorem dX12_raw_0 : decode cX12_raw 0 = .ok (.iload_n 1, 1) := by decide +kernel
theorem dX12_raw_1 : decode cX12_raw 1 = .ok (.aload_n 0, 1) := by decide +kernel
theorem dX12_raw_2 : decode cX12_raw 2 = .ok (.getfield 172, 3) := by decide +kernel
theorem dX12_raw_5 : decode cX12_raw 5 = .ok (.if_icmp .ge 12, 3) := by decide +kernel
theorem dX12_raw_8 : decode cX12_raw 8 = .ok (.aload_n 0, 1) := by decide +kernel
theorem dX12_raw_9 : decode cX12_raw 9 = .ok (.getfield 43, 3) := by decide +kernel
theorem dX12_raw_12 : decode cX12_raw 12 = .ok (.iload_n 1, 1) := by decide +kernel
theorem dX12_raw_13 : decode cX12_raw 13 = .ok (.iaload, 1) := by decide +kernel
theorem dX12_raw_14 : decode cX12_raw 14 = .ok (.goto 4, 3) := by decide +kernel
theorem dX12_raw_17 : decode cX12_raw 17 = .ok (.iconst (-1), 1) := by decide +kernel
theorem dX12_raw_18 : decode cX12_raw 18 = .ok (.ireturn, 1) := by decide +kernel
theorem dX12_reachedFrom_0 : decode cX12_reachedFrom 0 = .ok (.iconst 0, 1) := by decide +kernel
theorem dX12_reachedFrom_1 : decode cX12_reachedFrom 1 = .ok (.istore_n 2, 1) := by decide +kernel
theorem dX12_reachedFrom_2 : decode cX12_reachedFrom 2 = .ok (.iconst 0, 1) := by decide +kernel
theorem dX12_reachedFrom_3 : decode cX12_reachedFrom 3 = .ok (.istore_n 3, 1) := by decide +kernel
theorem dX12_reachedFrom_4 : decode cX12_reachedFrom 4 = .ok (.iload_n 3, 1) := by decide +kernel
theorem dX12_reachedFrom_5 : decode cX12_reachedFrom 5 = .ok (.aload_n 0, 1) := by decide +kernel
theorem dX12_reachedFrom_6 : decode cX12_reachedFrom 6 = .ok (.getfield 148, 3) := by decide +kernel
theorem dX12_reachedFrom_9 : decode cX12_reachedFrom 9 = .ok (.if_icmp .ge 24, 3) := by decide +kernel
theorem dX12_reachedFrom_12 : decode cX12_reachedFrom 12 = .ok (.aload_n 0, 1) := by decide +kernel
theorem dX12_reachedFrom_13 : decode cX12_reachedFrom 13 = .ok (.iload_n 1, 1) := by decide +kernel
theorem dX12_reachedFrom_14 : decode cX12_reachedFrom 14 = .ok (.iload_n 3, 1) := by decide +kernel
theorem dX12_reachedFrom_15 : decode cX12_reachedFrom 15 = .ok (.invokevirtual 377, 3) := by decide +kernel
theorem dX12_reachedFrom_18 : decode cX12_reachedFrom 18 = .ok (.ifCond .eq 9, 3) := by decide +kernel
theorem dX12_reachedFrom_21 : decode cX12_reachedFrom 21 = .ok (.iload_n 2, 1) := by decide +kernel
theorem dX12_reachedFrom_22 : decode cX12_reachedFrom 22 = .ok (.iconst 1, 1) := by decide +kernel
theorem dX12_reachedFrom_23 : decode cX12_reachedFrom 23 = .ok (.iload_n 3, 1) := by decide +kernel
theorem dX12_reachedFrom_24 : decode cX12_reachedFrom 24 = .ok (.ishl, 1) := by decide +kernel
theorem dX12_reachedFrom_25 : decode cX12_reachedFrom 25 = .ok (.ior, 1) := by decide +kernel
theorem dX12_reachedFrom_26 : decode cX12_reachedFrom 26 = .ok (.istore_n 2, 1) := by decide +kernel
theorem dX12_reachedFrom_27 : decode cX12_reachedFrom 27 = .ok (.iinc 3 1, 3) := by decide +kernel
theorem dX12_reachedFrom_30 : decode cX12_reachedFrom 30 = .ok (.goto (-26), 3) := by decide +kernel
theorem dX12_reachedFrom_33 : decode cX12_reachedFrom 33 = .ok (.iload_n 2, 1) := by decide +kernel
theorem dX12_reachedFrom_34 : decode cX12_reachedFrom 34 = .ok (.ireturn, 1) := by decide +kernel
theorem dX12_rowsBy_0 : decode cX12_rowsBy 0 = .ok (.aload_n 0, 1) := by decide +kernel
theorem dX12_rowsBy_1 : decode cX12_rowsBy 1 = .ok (.getfield 120, 3) := by decide +kernel
theorem dX12_rowsBy_4 : decode cX12_rowsBy 4 = .ok (.bipush 10, 2) := by decide +kernel
theorem dX12_rowsBy_6 : decode cX12_rowsBy 6 = .ok (.iload_n 1, 1) := by decide +kernel
theorem dX12_rowsBy_7 : decode cX12_rowsBy 7 = .ok (.imul, 1) := by decide +kernel
theorem dX12_rowsBy_8 : decode cX12_rowsBy 8 = .ok (.iload_n 2, 1) := by decide +kernel
theorem dX12_rowsBy_9 : decode cX12_rowsBy 9 = .ok (.iadd, 1) := by decide +kernel
theorem dX12_rowsBy_10 : decode cX12_rowsBy 10 = .ok (.laload, 1) := by decide +kernel
theorem dX12_rowsBy_11 : decode cX12_rowsBy 11 = .ok (.aload_n 0, 1) := by decide +kernel
theorem dX12_rowsBy_12 : decode cX12_rowsBy 12 = .ok (.getfield 124, 3) := by decide +kernel
theorem dX12_rowsBy_15 : decode cX12_rowsBy 15 = .ok (.bipush 10, 2) := by decide +kernel
theorem dX12_rowsBy_17 : decode cX12_rowsBy 17 = .ok (.iload_n 1, 1) := by decide +kernel
theorem dX12_rowsBy_18 : decode cX12_rowsBy 18 = .ok (.imul, 1) := by decide +kernel
theorem dX12_rowsBy_19 : decode cX12_rowsBy 19 = .ok (.iload_n 2, 1) := by decide +kernel
theorem dX12_rowsBy_20 : decode cX12_rowsBy 20 = .ok (.iadd, 1) := by decide +kernel
theorem dX12_rowsBy_21 : decode cX12_rowsBy 21 = .ok (.laload, 1) := by decide +kernel
theorem dX12_rowsBy_22 : decode cX12_rowsBy 22 = .ok (.lmul, 1) := by decide +kernel
theorem dX12_rowsBy_23 : decode cX12_rowsBy 23 = .ok (.lreturn, 1) := by decide +kernel
theorem dX12_sale_0 : decode cX12_sale 0 = .ok (.aload_n 0, 1) := by decide +kernel
theorem dX12_sale_1 : decode cX12_sale 1 = .ok (.iconst 0, 1) := by decide +kernel
theorem dX12_sale_2 : decode cX12_sale 2 = .ok (.putfield 130, 3) := by decide +kernel
theorem dX12_sale_5 : decode cX12_sale 5 = .ok (.aload_n 0, 1) := by decide +kernel
theorem dX12_sale_6 : decode cX12_sale 6 = .ok (.iconst (-1), 1) := by decide +kernel
theorem dX12_sale_7 : decode cX12_sale 7 = .ok (.invokevirtual 502, 3) := by decide +kernel
theorem dX12_sale_10 : decode cX12_sale 10 = .ok (.istore_n 2, 1) := by decide +kernel
theorem dX12_sale_11 : decode cX12_sale 11 = .ok (.iload_n 2, 1) := by decide +kernel
theorem dX12_sale_12 : decode cX12_sale 12 = .ok (.iconst (-1), 1) := by decide +kernel
theorem dX12_sale_13 : decode cX12_sale 13 = .ok (.if_icmp .eq 7, 3) := by decide +kernel
theorem dX12_sale_16 : decode cX12_sale 16 = .ok (.iload_n 1, 1) := by decide +kernel
theorem dX12_sale_17 : decode cX12_sale 17 = .ok (.ifCond .ne 13, 3) := by decide +kernel
theorem dX12_sale_20 : decode cX12_sale 20 = .ok (.iload_n 1, 1) := by decide +kernel
theorem dX12_sale_21 : decode cX12_sale 21 = .ok (.ifCond .ne 7, 3) := by decide +kernel
theorem dX12_sale_24 : decode cX12_sale 24 = .ok (.iload_n 2, 1) := by decide +kernel
theorem dX12_sale_25 : decode cX12_sale 25 = .ok (.goto 4, 3) := by decide +kernel
theorem dX12_sale_28 : decode cX12_sale 28 = .ok (.iconst (-1), 1) := by decide +kernel
theorem dX12_sale_29 : decode cX12_sale 29 = .ok (.ireturn, 1) := by decide +kernel
theorem dX12_sale_30 : decode cX12_sale 30 = .ok (.aload_n 0, 1) := by decide +kernel
theorem dX12_sale_31 : decode cX12_sale 31 = .ok (.iload_n 2, 1) := by decide +kernel
theorem dX12_sale_32 : decode cX12_sale 32 = .ok (.invokevirtual 502, 3) := by decide +kernel
theorem dX12_sale_35 : decode cX12_sale 35 = .ok (.istore_n 3, 1) := by decide +kernel
theorem dX12_sale_36 : decode cX12_sale 36 = .ok (.iload_n 1, 1) := by decide +kernel
theorem dX12_sale_37 : decode cX12_sale 37 = .ok (.iconst 1, 1) := by decide +kernel
theorem dX12_sale_38 : decode cX12_sale 38 = .ok (.if_icmp .ne 21, 3) := by decide +kernel
theorem dX12_sale_41 : decode cX12_sale 41 = .ok (.iload_n 3, 1) := by decide +kernel
theorem dX12_sale_42 : decode cX12_sale 42 = .ok (.iconst (-1), 1) := by decide +kernel
theorem dX12_sale_43 : decode cX12_sale 43 = .ok (.if_icmp .ne 7, 3) := by decide +kernel
theorem dX12_sale_46 : decode cX12_sale 46 = .ok (.iconst 0, 1) := by decide +kernel
theorem dX12_sale_47 : decode cX12_sale 47 = .ok (.goto 13, 3) := by decide +kernel
theorem dX12_sale_50 : decode cX12_sale 50 = .ok (.aload_n 0, 1) := by decide +kernel
theorem dX12_sale_51 : decode cX12_sale 51 = .ok (.getfield 25, 3) := by decide +kernel
theorem dX12_sale_54 : decode cX12_sale 54 = .ok (.iload_n 3, 1) := by decide +kernel
theorem dX12_sale_55 : decode cX12_sale 55 = .ok (.iaload, 1) := by decide +kernel
theorem dX12_sale_56 : decode cX12_sale 56 = .ok (.goto 4, 3) := by decide +kernel
theorem dX12_sale_59 : decode cX12_sale 59 = .ok (.iconst (-1), 1) := by decide +kernel
theorem dX12_sale_60 : decode cX12_sale 60 = .ok (.ireturn, 1) := by decide +kernel
theorem dX12_seenBy_0 : decode cX12_seenBy 0 = .ok (.iconst 0, 1) := by decide +kernel
theorem dX12_seenBy_1 : decode cX12_seenBy 1 = .ok (.istore_n 2, 1) := by decide +kernel
theorem dX12_seenBy_2 : decode cX12_seenBy 2 = .ok (.iconst 0, 1) := by decide +kernel
theorem dX12_seenBy_3 : decode cX12_seenBy 3 = .ok (.istore_n 3, 1) := by decide +kernel
theorem dX12_seenBy_4 : decode cX12_seenBy 4 = .ok (.iload_n 3, 1) := by decide +kernel
theorem dX12_seenBy_5 : decode cX12_seenBy 5 = .ok (.aload_n 0, 1) := by decide +kernel
theorem dX12_seenBy_6 : decode cX12_seenBy 6 = .ok (.getfield 148, 3) := by decide +kernel
theorem dX12_seenBy_9 : decode cX12_seenBy 9 = .ok (.if_icmp .ge 24, 3) := by decide +kernel
theorem dX12_seenBy_12 : decode cX12_seenBy 12 = .ok (.aload_n 0, 1) := by decide +kernel
theorem dX12_seenBy_13 : decode cX12_seenBy 13 = .ok (.iload_n 1, 1) := by decide +kernel
theorem dX12_seenBy_14 : decode cX12_seenBy 14 = .ok (.iload_n 3, 1) := by decide +kernel
theorem dX12_seenBy_15 : decode cX12_seenBy 15 = .ok (.invokevirtual 431, 3) := by decide +kernel
theorem dX12_seenBy_18 : decode cX12_seenBy 18 = .ok (.ifCond .eq 9, 3) := by decide +kernel
theorem dX12_seenBy_21 : decode cX12_seenBy 21 = .ok (.iload_n 2, 1) := by decide +kernel
theorem dX12_seenBy_22 : decode cX12_seenBy 22 = .ok (.iconst 1, 1) := by decide +kernel
theorem dX12_seenBy_23 : decode cX12_seenBy 23 = .ok (.iload_n 3, 1) := by decide +kernel
theorem dX12_seenBy_24 : decode cX12_seenBy 24 = .ok (.ishl, 1) := by decide +kernel
theorem dX12_seenBy_25 : decode cX12_seenBy 25 = .ok (.ior, 1) := by decide +kernel
theorem dX12_seenBy_26 : decode cX12_seenBy 26 = .ok (.istore_n 2, 1) := by decide +kernel
theorem dX12_seenBy_27 : decode cX12_seenBy 27 = .ok (.iinc 3 1, 3) := by decide +kernel
theorem dX12_seenBy_30 : decode cX12_seenBy 30 = .ok (.goto (-26), 3) := by decide +kernel
theorem dX12_seenBy_33 : decode cX12_seenBy 33 = .ok (.iload_n 2, 1) := by decide +kernel
theorem dX12_seenBy_34 : decode cX12_seenBy 34 = .ok (.ireturn, 1) := by decide +kernel
theorem dX12_sinceLast_0 : decode cX12_sinceLast 0 = .ok (.aload_n 0, 1) := by decide +kernel
theorem dX12_sinceLast_1 : decode cX12_sinceLast 1 = .ok (.getfield 7, 3) := by decide +kernel
theorem dX12_sinceLast_4 : decode cX12_sinceLast 4 = .ok (.iconst 0, 1) := by decide +kernel
theorem dX12_sinceLast_5 : decode cX12_sinceLast 5 = .ok (.iaload, 1) := by decide +kernel
theorem dX12_sinceLast_6 : decode cX12_sinceLast 6 = .ok (.aload_n 0, 1) := by decide +kernel
theorem dX12_sinceLast_7 : decode cX12_sinceLast 7 = .ok (.getfield 7, 3) := by decide +kernel
theorem dX12_sinceLast_10 : decode cX12_sinceLast 10 = .ok (.bipush 36, 2) := by decide +kernel
theorem dX12_sinceLast_12 : decode cX12_sinceLast 12 = .ok (.iload_n 1, 1) := by decide +kernel
theorem dX12_sinceLast_13 : decode cX12_sinceLast 13 = .ok (.iadd, 1) := by decide +kernel
theorem dX12_sinceLast_14 : decode cX12_sinceLast 14 = .ok (.iaload, 1) := by decide +kernel
theorem dX12_sinceLast_15 : decode cX12_sinceLast 15 = .ok (.iconst 1, 1) := by decide +kernel
theorem dX12_sinceLast_16 : decode cX12_sinceLast 16 = .ok (.isub, 1) := by decide +kernel
theorem dX12_sinceLast_17 : decode cX12_sinceLast 17 = .ok (.isub, 1) := by decide +kernel
theorem dX12_sinceLast_18 : decode cX12_sinceLast 18 = .ok (.ireturn, 1) := by decide +kernel
theorem dX12_snows_0 : decode cX12_snows 0 = .ok (.aload_n 0, 1) := by decide +kernel
theorem dX12_snows_1 : decode cX12_snows 1 = .ok (.getfield 136, 3) := by decide +kernel
theorem dX12_snows_4 : decode cX12_snows 4 = .ok (.ifCond .ne 10, 3) := by decide +kernel
theorem dX12_snows_7 : decode cX12_snows 7 = .ok (.aload_n 0, 1) := by decide +kernel
theorem dX12_snows_8 : decode cX12_snows 8 = .ok (.getfield 166, 3) := by decide +kernel
theorem dX12_snows_11 : decode cX12_snows 11 = .ok (.ifCond .ne 4, 3) := by decide +kernel
theorem dX12_snows_14 : decode cX12_snows 14 = .ok (.return_, 1) := by decide +kernel
theorem dX12_snows_15 : decode cX12_snows 15 = .ok (.aload_n 0, 1) := by decide +kernel
theorem dX12_snows_16 : decode cX12_snows 16 = .ok (.getfield 7, 3) := by decide +kernel
theorem dX12_snows_19 : decode cX12_snows 19 = .ok (.iconst 4, 1) := by decide +kernel
theorem dX12_snows_20 : decode cX12_snows 20 = .ok (.aload_n 0, 1) := by decide +kernel
theorem dX12_snows_21 : decode cX12_snows 21 = .ok (.sipush 1000, 3) := by decide +kernel
theorem dX12_snows_24 : decode cX12_snows 24 = .ok (.invokevirtual 387, 3) := by decide +kernel
theorem dX12_snows_27 : decode cX12_snows 27 = .ok (.aload_n 0, 1) := by decide +kernel
theorem dX12_snows_28 : decode cX12_snows 28 = .ok (.getfield 166, 3) := by decide +kernel
theorem dX12_snows_31 : decode cX12_snows 31 = .ok (.if_icmp .ge 21, 3) := by decide +kernel
theorem dX12_snows_34 : decode cX12_snows 34 = .ok (.aload_n 0, 1) := by decide +kernel
theorem dX12_snows_35 : decode cX12_snows 35 = .ok (.aload_n 0, 1) := by decide +kernel
theorem dX12_snows_36 : decode cX12_snows 36 = .ok (.getfield 7, 3) := by decide +kernel
theorem dX12_snows_39 : decode cX12_snows 39 = .ok (.iconst 4, 1) := by decide +kernel
theorem dX12_snows_40 : decode cX12_snows 40 = .ok (.iaload, 1) := by decide +kernel
theorem dX12_snows_41 : decode cX12_snows 41 = .ok (.iconst 1, 1) := by decide +kernel
theorem dX12_snows_42 : decode cX12_snows 42 = .ok (.iadd, 1) := by decide +kernel
theorem dX12_snows_43 : decode cX12_snows 43 = .ok (.iconst 0, 1) := by decide +kernel
theorem dX12_snows_44 : decode cX12_snows 44 = .ok (.bipush 9, 2) := by decide +kernel
theorem dX12_snows_46 : decode cX12_snows 46 = .ok (.invokevirtual 374, 3) := by decide +kernel
theorem dX12_snows_49 : decode cX12_snows 49 = .ok (.goto 18, 3) := by decide +kernel
theorem dX12_snows_52 : decode cX12_snows 52 = .ok (.aload_n 0, 1) := by decide +kernel
theorem dX12_snows_53 : decode cX12_snows 53 = .ok (.aload_n 0, 1) := by decide +kernel
theorem dX12_snows_54 : decode cX12_snows 54 = .ok (.getfield 7, 3) := by decide +kernel
theorem dX12_snows_57 : decode cX12_snows 57 = .ok (.iconst 4, 1) := by decide +kernel
theorem dX12_snows_58 : decode cX12_snows 58 = .ok (.iaload, 1) := by decide +kernel
theorem dX12_snows_59 : decode cX12_snows 59 = .ok (.iconst 1, 1) := by decide +kernel
theorem dX12_snows_60 : decode cX12_snows 60 = .ok (.isub, 1) := by decide +kernel
theorem dX12_snows_61 : decode cX12_snows 61 = .ok (.iconst 0, 1) := by decide +kernel
theorem dX12_snows_62 : decode cX12_snows 62 = .ok (.bipush 9, 2) := by decide +kernel
theorem dX12_snows_64 : decode cX12_snows 64 = .ok (.invokevirtual 374, 3) := by decide +kernel
theorem dX12_snows_67 : decode cX12_snows 67 = .ok (.iastore, 1) := by decide +kernel
theorem dX12_snows_68 : decode cX12_snows 68 = .ok (.return_, 1) := by decide +kernel
theorem dX12_snowsOn_0 : decode cX12_snowsOn 0 = .ok (.iconst 0, 1) := by decide +kernel
theorem dX12_snowsOn_1 : decode cX12_snowsOn 1 = .ok (.istore_n 1, 1) := by decide +kernel
theorem dX12_snowsOn_2 : decode cX12_snowsOn 2 = .ok (.iload_n 1, 1) := by decide +kernel
theorem dX12_snowsOn_3 : decode cX12_snowsOn 3 = .ok (.bipush 9, 2) := by decide +kernel
theorem dX12_snowsOn_5 : decode cX12_snowsOn 5 = .ok (.if_icmp .gt 16, 3) := by decide +kernel
theorem dX12_snowsOn_8 : decode cX12_snowsOn 8 = .ok (.aload_n 0, 1) := by decide +kernel
theorem dX12_snowsOn_9 : decode cX12_snowsOn 9 = .ok (.getfield 117, 3) := by decide +kernel
theorem dX12_snowsOn_12 : decode cX12_snowsOn 12 = .ok (.iload_n 1, 1) := by decide +kernel
theorem dX12_snowsOn_13 : decode cX12_snowsOn 13 = .ok (.iconst 0, 1) := by decide +kernel
theorem dX12_snowsOn_14 : decode cX12_snowsOn 14 = .ok (.iastore, 1) := by decide +kernel
theorem dX12_snowsOn_15 : decode cX12_snowsOn 15 = .ok (.iinc 1 1, 3) := by decide +kernel
theorem dX12_snowsOn_18 : decode cX12_snowsOn 18 = .ok (.goto (-16), 3) := by decide +kernel
theorem dX12_snowsOn_21 : decode cX12_snowsOn 21 = .ok (.iconst 0, 1) := by decide +kernel
theorem dX12_snowsOn_22 : decode cX12_snowsOn 22 = .ok (.istore_n 1, 1) := by decide +kernel
theorem dX12_snowsOn_23 : decode cX12_snowsOn 23 = .ok (.iload_n 1, 1) := by decide +kernel
theorem dX12_snowsOn_24 : decode cX12_snowsOn 24 = .ok (.bipush 9, 2) := by decide +kernel
theorem dX12_snowsOn_26 : decode cX12_snowsOn 26 = .ok (.if_icmp .gt 88, 3) := by decide +kernel
theorem dX12_snowsOn_29 : decode cX12_snowsOn 29 = .ok (.aload_n 0, 1) := by decide +kernel
theorem dX12_snowsOn_30 : decode cX12_snowsOn 30 = .ok (.getfield 114, 3) := by decide +kernel
theorem dX12_snowsOn_33 : decode cX12_snowsOn 33 = .ok (.iload_n 1, 1) := by decide +kernel
theorem dX12_snowsOn_34 : decode cX12_snowsOn 34 = .ok (.iaload, 1) := by decide +kernel
theorem dX12_snowsOn_35 : decode cX12_snowsOn 35 = .ok (.i2l, 1) := by decide +kernel
theorem dX12_snowsOn_36 : decode cX12_snowsOn 36 = .ok (.aload_n 0, 1) := by decide +kernel
theorem dX12_snowsOn_37 : decode cX12_snowsOn 37 = .ok (.getfield 166, 3) := by decide +kernel
theorem dX12_snowsOn_40 : decode cX12_snowsOn 40 = .ok (.i2l, 1) := by decide +kernel
theorem dX12_snowsOn_41 : decode cX12_snowsOn 41 = .ok (.lmul, 1) := by decide +kernel
theorem dX12_snowsOn_42 : decode cX12_snowsOn 42 = .ok (.ldc2_w 505, 3) := by decide +kernel
theorem dX12_snowsOn_45 : decode cX12_snowsOn 45 = .ok (.ldiv, 1) := by decide +kernel
theorem dX12_snowsOn_46 : decode cX12_snowsOn 46 = .ok (.l2i, 1) := by decide +kernel
theorem dX12_snowsOn_47 : decode cX12_snowsOn 47 = .ok (.istore_n 2, 1) := by decide +kernel
theorem dX12_snowsOn_48 : decode cX12_snowsOn 48 = .ok (.aload_n 0, 1) := by decide +kernel
theorem dX12_snowsOn_49 : decode cX12_snowsOn 49 = .ok (.iload_n 1, 1) := by decide +kernel
theorem dX12_snowsOn_50 : decode cX12_snowsOn 50 = .ok (.iconst 1, 1) := by decide +kernel
theorem dX12_snowsOn_51 : decode cX12_snowsOn 51 = .ok (.iadd, 1) := by decide +kernel
theorem dX12_snowsOn_52 : decode cX12_snowsOn 52 = .ok (.iconst 0, 1) := by decide +kernel
theorem dX12_snowsOn_53 : decode cX12_snowsOn 53 = .ok (.bipush 9, 2) := by decide +kernel
theorem dX12_snowsOn_55 : decode cX12_snowsOn 55 = .ok (.invokevirtual 374, 3) := by decide +kernel
theorem dX12_snowsOn_58 : decode cX12_snowsOn 58 = .ok (.istore_n 3, 1) := by decide +kernel
theorem dX12_snowsOn_59 : decode cX12_snowsOn 59 = .ok (.aload_n 0, 1) := by decide +kernel
theorem dX12_snowsOn_60 : decode cX12_snowsOn 60 = .ok (.iload_n 1, 1) := by decide +kernel
theorem dX12_snowsOn_61 : decode cX12_snowsOn 61 = .ok (.iconst 1, 1) := by decide +kernel
theorem dX12_snowsOn_62 : decode cX12_snowsOn 62 = .ok (.isub, 1) := by decide +kernel
theorem dX12_snowsOn_63 : decode cX12_snowsOn 63 = .ok (.iconst 0, 1) := by decide +kernel
theorem dX12_snowsOn_64 : decode cX12_snowsOn 64 = .ok (.bipush 9, 2) := by decide +kernel
theorem dX12_snowsOn_66 : decode cX12_snowsOn 66 = .ok (.invokevirtual 374, 3) := by decide +kernel
theorem dX12_snowsOn_69 : decode cX12_snowsOn 69 = .ok (.istore 4, 2) := by decide +kernel
theorem dX12_snowsOn_71 : decode cX12_snowsOn 71 = .ok (.aload_n 0, 1) := by decide +kernel
theorem dX12_snowsOn_72 : decode cX12_snowsOn 72 = .ok (.getfield 117, 3) := by decide +kernel
theorem dX12_snowsOn_75 : decode cX12_snowsOn 75 = .ok (.iload_n 3, 1) := by decide +kernel
theorem dX12_snowsOn_76 : decode cX12_snowsOn 76 = .ok (.aload_n 0, 1) := by decide +kernel
theorem dX12_snowsOn_77 : decode cX12_snowsOn 77 = .ok (.getfield 117, 3) := by decide +kernel
theorem dX12_snowsOn_80 : decode cX12_snowsOn 80 = .ok (.iload_n 3, 1) := by decide +kernel
theorem dX12_snowsOn_81 : decode cX12_snowsOn 81 = .ok (.iaload, 1) := by decide +kernel
theorem dX12_snowsOn_82 : decode cX12_snowsOn 82 = .ok (.iload_n 2, 1) := by decide +kernel
theorem dX12_snowsOn_83 : decode cX12_snowsOn 83 = .ok (.iadd, 1) := by decide +kernel
theorem dX12_snowsOn_84 : decode cX12_snowsOn 84 = .ok (.iastore, 1) := by decide +kernel
theorem dX12_snowsOn_85 : decode cX12_snowsOn 85 = .ok (.aload_n 0, 1) := by decide +kernel
theorem dX12_snowsOn_86 : decode cX12_snowsOn 86 = .ok (.getfield 117, 3) := by decide +kernel
theorem dX12_snowsOn_89 : decode cX12_snowsOn 89 = .ok (.iload 4, 2) := by decide +kernel
theorem dX12_snowsOn_91 : decode cX12_snowsOn 91 = .ok (.aload_n 0, 1) := by decide +kernel
theorem dX12_snowsOn_92 : decode cX12_snowsOn 92 = .ok (.getfield 117, 3) := by decide +kernel
theorem dX12_snowsOn_95 : decode cX12_snowsOn 95 = .ok (.iload 4, 2) := by decide +kernel
theorem dX12_snowsOn_97 : decode cX12_snowsOn 97 = .ok (.iaload, 1) := by decide +kernel
theorem dX12_snowsOn_98 : decode cX12_snowsOn 98 = .ok (.aload_n 0, 1) := by decide +kernel
theorem dX12_snowsOn_99 : decode cX12_snowsOn 99 = .ok (.getfield 114, 3) := by decide +kernel
theorem dX12_snowsOn_102 : decode cX12_snowsOn 102 = .ok (.iload_n 1, 1) := by decide +kernel
theorem dX12_snowsOn_103 : decode cX12_snowsOn 103 = .ok (.iaload, 1) := by decide +kernel
theorem dX12_snowsOn_104 : decode cX12_snowsOn 104 = .ok (.iadd, 1) := by decide +kernel
theorem dX12_snowsOn_105 : decode cX12_snowsOn 105 = .ok (.iload_n 2, 1) := by decide +kernel
theorem dX12_snowsOn_106 : decode cX12_snowsOn 106 = .ok (.isub, 1) := by decide +kernel
theorem dX12_snowsOn_107 : decode cX12_snowsOn 107 = .ok (.iastore, 1) := by decide +kernel
theorem dX12_snowsOn_108 : decode cX12_snowsOn 108 = .ok (.iinc 1 1, 3) := by decide +kernel
theorem dX12_snowsOn_111 : decode cX12_snowsOn 111 = .ok (.goto (-88), 3) := by decide +kernel
theorem dX12_snowsOn_114 : decode cX12_snowsOn 114 = .ok (.iconst 0, 1) := by decide +kernel
theorem dX12_snowsOn_115 : decode cX12_snowsOn 115 = .ok (.istore_n 1, 1) := by decide +kernel
theorem dX12_snowsOn_116 : decode cX12_snowsOn 116 = .ok (.iload_n 1, 1) := by decide +kernel
theorem dX12_snowsOn_117 : decode cX12_snowsOn 117 = .ok (.bipush 9, 2) := by decide +kernel
theorem dX12_snowsOn_119 : decode cX12_snowsOn 119 = .ok (.if_icmp .gt 21, 3) := by decide +kernel
theorem dX12_snowsOn_122 : decode cX12_snowsOn 122 = .ok (.aload_n 0, 1) := by decide +kernel
theorem dX12_snowsOn_123 : decode cX12_snowsOn 123 = .ok (.getfield 114, 3) := by decide +kernel
theorem dX12_snowsOn_126 : decode cX12_snowsOn 126 = .ok (.iload_n 1, 1) := by decide +kernel
theorem dX12_snowsOn_127 : decode cX12_snowsOn 127 = .ok (.aload_n 0, 1) := by decide +kernel
theorem dX12_snowsOn_128 : decode cX12_snowsOn 128 = .ok (.getfield 117, 3) := by decide +kernel
theorem dX12_snowsOn_131 : decode cX12_snowsOn 131 = .ok (.iload_n 1, 1) := by decide +kernel
theorem dX12_snowsOn_132 : decode cX12_snowsOn 132 = .ok (.iaload, 1) := by decide +kernel
theorem dX12_snowsOn_133 : decode cX12_snowsOn 133 = .ok (.iastore, 1) := by decide +kernel
theorem dX12_snowsOn_134 : decode cX12_snowsOn 134 = .ok (.iinc 1 1, 3) := by decide +kernel
theorem dX12_snowsOn_137 : decode cX12_snowsOn 137 = .ok (.goto (-21), 3) := by decide +kernel
theorem dX12_snowsOn_140 : decode cX12_snowsOn 140 = .ok (.return_, 1) := by decide +kernel
theorem dX12_spoils_0 : decode cX12_spoils 0 = .ok (.iconst 0, 1) := by decide +kernel
theorem dX12_spoils_1 : decode cX12_spoils 1 = .ok (.istore_n 1, 1) := by decide +kernel
theorem dX12_spoils_2 : decode cX12_spoils 2 = .ok (.iload_n 1, 1) := by decide +kernel
theorem dX12_spoils_3 : decode cX12_spoils 3 = .ok (.aload_n 0, 1) := by decide +kernel
theorem dX12_spoils_4 : decode cX12_spoils 4 = .ok (.getfield 324, 3) := by decide +kernel
theorem dX12_spoils_7 : decode cX12_spoils 7 = .ok (.if_icmp .ge 46, 3) := by decide +kernel
theorem dX12_spoils_10 : decode cX12_spoils 10 = .ok (.aload_n 0, 1) := by decide +kernel
theorem dX12_spoils_11 : decode cX12_spoils 11 = .ok (.getfield 7, 3) := by decide +kernel
theorem dX12_spoils_14 : decode cX12_spoils 14 = .ok (.bipush 46, 2) := by decide +kernel
theorem dX12_spoils_16 : decode cX12_spoils 16 = .ok (.iload_n 1, 1) := by decide +kernel
theorem dX12_spoils_17 : decode cX12_spoils 17 = .ok (.iadd, 1) := by decide +kernel
theorem dX12_spoils_18 : decode cX12_spoils 18 = .ok (.iaload, 1) := by decide +kernel
theorem dX12_spoils_19 : decode cX12_spoils 19 = .ok (.ifCond .ne 28, 3) := by decide +kernel
theorem dX12_spoils_22 : decode cX12_spoils 22 = .ok (.aload_n 0, 1) := by decide +kernel
theorem dX12_spoils_23 : decode cX12_spoils 23 = .ok (.iload_n 1, 1) := by decide +kernel
theorem dX12_spoils_24 : decode cX12_spoils 24 = .ok (.iconst 3, 1) := by decide +kernel
theorem dX12_spoils_25 : decode cX12_spoils 25 = .ok (.invokevirtual 356, 3) := by decide +kernel
theorem dX12_spoils_28 : decode cX12_spoils 28 = .ok (.aload_n 0, 1) := by decide +kernel
theorem dX12_spoils_29 : decode cX12_spoils 29 = .ok (.getfield 7, 3) := by decide +kernel
theorem dX12_spoils_32 : decode cX12_spoils 32 = .ok (.iconst 0, 1) := by decide +kernel
theorem dX12_spoils_33 : decode cX12_spoils 33 = .ok (.iaload, 1) := by decide +kernel
theorem dX12_spoils_34 : decode cX12_spoils 34 = .ok (.if_icmp .ne 13, 3) := by decide +kernel
theorem dX12_spoils_37 : decode cX12_spoils 37 = .ok (.aload_n 0, 1) := by decide +kernel
theorem dX12_spoils_38 : decode cX12_spoils 38 = .ok (.getfield 7, 3) := by decide +kernel
theorem dX12_spoils_41 : decode cX12_spoils 41 = .ok (.bipush 56, 2) := by decide +kernel
theorem dX12_spoils_43 : decode cX12_spoils 43 = .ok (.iload_n 1, 1) := by decide +kernel
theorem dX12_spoils_44 : decode cX12_spoils 44 = .ok (.iadd, 1) := by decide +kernel
theorem dX12_spoils_45 : decode cX12_spoils 45 = .ok (.iconst 1, 1) := by decide +kernel
theorem dX12_spoils_46 : decode cX12_spoils 46 = .ok (.iastore, 1) := by decide +kernel
theorem dX12_spoils_47 : decode cX12_spoils 47 = .ok (.iinc 1 1, 3) := by decide +kernel
theorem dX12_spoils_50 : decode cX12_spoils 50 = .ok (.goto (-48), 3) := by decide +kernel
theorem dX12_spoils_53 : decode cX12_spoils 53 = .ok (.return_, 1) := by decide +kernel
theorem dX12_state_0 : decode cX12_state 0 = .ok (.aload_n 0, 1) := by decide +kernel
theorem dX12_state_1 : decode cX12_state 1 = .ok (.iconst 0, 1) := by decide +kernel
theorem dX12_state_2 : decode cX12_state 2 = .ok (.putfield 130, 3) := by decide +kernel
theorem dX12_state_5 : decode cX12_state 5 = .ok (.aload_n 0, 1) := by decide +kernel
theorem dX12_state_6 : decode cX12_state 6 = .ok (.getfield 7, 3) := by decide +kernel
theorem dX12_state_9 : decode cX12_state 9 = .ok (.iconst 1, 1) := by decide +kernel
theorem dX12_state_10 : decode cX12_state 10 = .ok (.iaload, 1) := by decide +kernel
theorem dX12_state_11 : decode cX12_state 11 = .ok (.istore_n 2, 1) := by decide +kernel
theorem dX12_state_12 : decode cX12_state 12 = .ok (.aload_n 0, 1) := by decide +kernel
theorem dX12_state_13 : decode cX12_state 13 = .ok (.getfield 7, 3) := by decide +kernel
theorem dX12_state_16 : decode cX12_state 16 = .ok (.iconst 1, 1) := by decide +kernel
theorem dX12_state_17 : decode cX12_state 17 = .ok (.iload_n 1, 1) := by decide +kernel
theorem dX12_state_18 : decode cX12_state 18 = .ok (.iastore, 1) := by decide +kernel
theorem dX12_state_19 : decode cX12_state 19 = .ok (.aload_n 0, 1) := by decide +kernel
theorem dX12_state_20 : decode cX12_state 20 = .ok (.iconst 0, 1) := by decide +kernel
theorem dX12_state_21 : decode cX12_state 21 = .ok (.putfield 133, 3) := by decide +kernel
theorem dX12_state_24 : decode cX12_state 24 = .ok (.iload_n 2, 1) := by decide +kernel
theorem dX12_state_25 : decode cX12_state 25 = .ok (.ireturn, 1) := by decide +kernel
theorem dX12_sumOf_0 : decode cX12_sumOf 0 = .ok (.lconst 0, 1) := by decide +kernel
theorem dX12_sumOf_1 : decode cX12_sumOf 1 = .ok (.lstore 4, 2) := by decide +kernel
theorem dX12_sumOf_3 : decode cX12_sumOf 3 = .ok (.iconst 0, 1) := by decide +kernel
theorem dX12_sumOf_4 : decode cX12_sumOf 4 = .ok (.istore 6, 2) := by decide +kernel
theorem dX12_sumOf_6 : decode cX12_sumOf 6 = .ok (.iload 6, 2) := by decide +kernel
theorem dX12_sumOf_8 : decode cX12_sumOf 8 = .ok (.aload_n 0, 1) := by decide +kernel
theorem dX12_sumOf_9 : decode cX12_sumOf 9 = .ok (.getfield 148, 3) := by decide +kernel
theorem dX12_sumOf_12 : decode cX12_sumOf 12 = .ok (.if_icmp .ge 33, 3) := by decide +kernel
theorem dX12_sumOf_15 : decode cX12_sumOf 15 = .ok (.aload_n 0, 1) := by decide +kernel
theorem dX12_sumOf_16 : decode cX12_sumOf 16 = .ok (.iload 6, 2) := by decide +kernel
theorem dX12_sumOf_18 : decode cX12_sumOf 18 = .ok (.iload_n 3, 1) := by decide +kernel
theorem dX12_sumOf_19 : decode cX12_sumOf 19 = .ok (.invokevirtual 377, 3) := by decide +kernel
theorem dX12_sumOf_22 : decode cX12_sumOf 22 = .ok (.ifCond .eq 17, 3) := by decide +kernel
theorem dX12_sumOf_25 : decode cX12_sumOf 25 = .ok (.lload 4, 2) := by decide +kernel
theorem dX12_sumOf_27 : decode cX12_sumOf 27 = .ok (.aload_n 1, 1) := by decide +kernel
theorem dX12_sumOf_28 : decode cX12_sumOf 28 = .ok (.bipush 10, 2) := by decide +kernel
theorem dX12_sumOf_30 : decode cX12_sumOf 30 = .ok (.iload_n 2, 1) := by decide +kernel
theorem dX12_sumOf_31 : decode cX12_sumOf 31 = .ok (.imul, 1) := by decide +kernel
theorem dX12_sumOf_32 : decode cX12_sumOf 32 = .ok (.iload 6, 2) := by decide +kernel
theorem dX12_sumOf_34 : decode cX12_sumOf 34 = .ok (.iadd, 1) := by decide +kernel
theorem dX12_sumOf_35 : decode cX12_sumOf 35 = .ok (.laload, 1) := by decide +kernel
theorem dX12_sumOf_36 : decode cX12_sumOf 36 = .ok (.ladd, 1) := by decide +kernel
theorem dX12_sumOf_37 : decode cX12_sumOf 37 = .ok (.lstore 4, 2) := by decide +kernel
theorem dX12_sumOf_39 : decode cX12_sumOf 39 = .ok (.iinc 6 1, 3) := by decide +kernel
theorem dX12_sumOf_42 : decode cX12_sumOf 42 = .ok (.goto (-36), 3) := by decide +kernel
theorem dX12_sumOf_45 : decode cX12_sumOf 45 = .ok (.lload 4, 2) := by decide +kernel
theorem dX12_sumOf_47 : decode cX12_sumOf 47 = .ok (.lreturn, 1) := by decide +kernel
theorem dX12_sure_0 : decode cX12_sure 0 = .ok (.aload_n 0, 1) := by decide +kernel
theorem dX12_sure_1 : decode cX12_sure 1 = .ok (.iconst 0, 1) := by decide +kernel
theorem dX12_sure_2 : decode cX12_sure 2 = .ok (.putfield 130, 3) := by decide +kernel
theorem dX12_sure_5 : decode cX12_sure 5 = .ok (.aload_n 0, 1) := by decide +kernel
theorem dX12_sure_6 : decode cX12_sure 6 = .ok (.iload_n 1, 1) := by decide +kernel
theorem dX12_sure_7 : decode cX12_sure 7 = .ok (.invokevirtual 155, 3) := by decide +kernel
theorem dX12_sure_10 : decode cX12_sure 10 = .ok (.ifCond .eq 32, 3) := by decide +kernel
theorem dX12_sure_13 : decode cX12_sure 13 = .ok (.aload_n 0, 1) := by decide +kernel
theorem dX12_sure_14 : decode cX12_sure 14 = .ok (.iload_n 2, 1) := by decide +kernel
theorem dX12_sure_15 : decode cX12_sure 15 = .ok (.invokevirtual 155, 3) := by decide +kernel
theorem dX12_sure_18 : decode cX12_sure 18 = .ok (.ifCond .eq 24, 3) := by decide +kernel
theorem dX12_sure_21 : decode cX12_sure 21 = .ok (.aload_n 0, 1) := by decide +kernel
theorem dX12_sure_22 : decode cX12_sure 22 = .ok (.iload_n 3, 1) := by decide +kernel
theorem dX12_sure_23 : decode cX12_sure 23 = .ok (.iconst 1, 1) := by decide +kernel
theorem dX12_sure_24 : decode cX12_sure 24 = .ok (.bipush 9, 2) := by decide +kernel
theorem dX12_sure_26 : decode cX12_sure 26 = .ok (.invokevirtual 151, 3) := by decide +kernel
theorem dX12_sure_29 : decode cX12_sure 29 = .ok (.ifCond .eq 13, 3) := by decide +kernel
theorem dX12_sure_32 : decode cX12_sure 32 = .ok (.aload_n 0, 1) := by decide +kernel
theorem dX12_sure_33 : decode cX12_sure 33 = .ok (.iload_n 1, 1) := by decide +kernel
theorem dX12_sure_34 : decode cX12_sure 34 = .ok (.iload_n 2, 1) := by decide +kernel
theorem dX12_sure_35 : decode cX12_sure 35 = .ok (.iload_n 3, 1) := by decide +kernel
theorem dX12_sure_36 : decode cX12_sure 36 = .ok (.invokevirtual 514, 3) := by decide +kernel
theorem dX12_sure_39 : decode cX12_sure 39 = .ok (.goto 4, 3) := by decide +kernel
theorem dX12_sure_42 : decode cX12_sure 42 = .ok (.iconst (-1), 1) := by decide +kernel
theorem dX12_sure_43 : decode cX12_sure 43 = .ok (.ireturn, 1) := by decide +kernel
theorem dX12_sureOf_0 : decode cX12_sureOf 0 = .ok (.aload_n 0, 1) := by decide +kernel
theorem dX12_sureOf_1 : decode cX12_sureOf 1 = .ok (.iload_n 3, 1) := by decide +kernel
theorem dX12_sureOf_2 : decode cX12_sureOf 2 = .ok (.invokevirtual 511, 3) := by decide +kernel
theorem dX12_sureOf_5 : decode cX12_sureOf 5 = .ok (.iconst 0, 1) := by decide +kernel
theorem dX12_sureOf_6 : decode cX12_sureOf 6 = .ok (.istore 4, 2) := by decide +kernel
theorem dX12_sureOf_8 : decode cX12_sureOf 8 = .ok (.iconst 0, 1) := by decide +kernel
theorem dX12_sureOf_9 : decode cX12_sureOf 9 = .ok (.istore 5, 2) := by decide +kernel
theorem dX12_sureOf_11 : decode cX12_sureOf 11 = .ok (.iload 5, 2) := by decide +kernel
theorem dX12_sureOf_13 : decode cX12_sureOf 13 = .ok (.bipush 9, 2) := by decide +kernel
theorem dX12_sureOf_15 : decode cX12_sureOf 15 = .ok (.if_icmp .gt 36, 3) := by decide +kernel
theorem dX12_sureOf_18 : decode cX12_sureOf 18 = .ok (.aload_n 0, 1) := by decide +kernel
theorem dX12_sureOf_19 : decode cX12_sureOf 19 = .ok (.iload 5, 2) := by decide +kernel
theorem dX12_sureOf_21 : decode cX12_sureOf 21 = .ok (.invokevirtual 353, 3) := by decide +kernel
theorem dX12_sureOf_24 : decode cX12_sureOf 24 = .ok (.aload_n 0, 1) := by decide +kernel
theorem dX12_sureOf_25 : decode cX12_sureOf 25 = .ok (.iload_n 1, 1) := by decide +kernel
theorem dX12_sureOf_26 : decode cX12_sureOf 26 = .ok (.iload_n 2, 1) := by decide +kernel
theorem dX12_sureOf_27 : decode cX12_sureOf 27 = .ok (.invokevirtual 377, 3) := by decide +kernel
theorem dX12_sureOf_30 : decode cX12_sureOf 30 = .ok (.ifCond .eq 15, 3) := by decide +kernel
theorem dX12_sureOf_33 : decode cX12_sureOf 33 = .ok (.iload 4, 2) := by decide +kernel
theorem dX12_sureOf_35 : decode cX12_sureOf 35 = .ok (.aload_n 0, 1) := by decide +kernel
theorem dX12_sureOf_36 : decode cX12_sureOf 36 = .ok (.getfield 114, 3) := by decide +kernel
theorem dX12_sureOf_39 : decode cX12_sureOf 39 = .ok (.iload 5, 2) := by decide +kernel
theorem dX12_sureOf_41 : decode cX12_sureOf 41 = .ok (.iaload, 1) := by decide +kernel
theorem dX12_sureOf_42 : decode cX12_sureOf 42 = .ok (.iadd, 1) := by decide +kernel
theorem dX12_sureOf_43 : decode cX12_sureOf 43 = .ok (.istore 4, 2) := by decide +kernel
theorem dX12_sureOf_45 : decode cX12_sureOf 45 = .ok (.iinc 5 1, 3) := by decide +kernel
theorem dX12_sureOf_48 : decode cX12_sureOf 48 = .ok (.goto (-37), 3) := by decide +kernel
theorem dX12_sureOf_51 : decode cX12_sureOf 51 = .ok (.iload 4, 2) := by decide +kernel
theorem dX12_sureOf_53 : decode cX12_sureOf 53 = .ok (.ireturn, 1) := by decide +kernel
theorem dX12_thinks_0 : decode cX12_thinks 0 = .ok (.iconst 0, 1) := by decide +kernel
theorem dX12_thinks_1 : decode cX12_thinks 1 = .ok (.istore_n 1, 1) := by decide +kernel
theorem dX12_thinks_2 : decode cX12_thinks 2 = .ok (.iload_n 1, 1) := by decide +kernel
theorem dX12_thinks_3 : decode cX12_thinks 3 = .ok (.bipush 66, 2) := by decide +kernel
theorem dX12_thinks_5 : decode cX12_thinks 5 = .ok (.if_icmp .ge 21, 3) := by decide +kernel
theorem dX12_thinks_8 : decode cX12_thinks 8 = .ok (.aload_n 0, 1) := by decide +kernel
theorem dX12_thinks_9 : decode cX12_thinks 9 = .ok (.getfield 16, 3) := by decide +kernel
theorem dX12_thinks_12 : decode cX12_thinks 12 = .ok (.iload_n 1, 1) := by decide +kernel
theorem dX12_thinks_13 : decode cX12_thinks 13 = .ok (.aload_n 0, 1) := by decide +kernel
theorem dX12_thinks_14 : decode cX12_thinks 14 = .ok (.getfield 7, 3) := by decide +kernel
theorem dX12_thinks_17 : decode cX12_thinks 17 = .ok (.iload_n 1, 1) := by decide +kernel
theorem dX12_thinks_18 : decode cX12_thinks 18 = .ok (.iaload, 1) := by decide +kernel
theorem dX12_thinks_19 : decode cX12_thinks 19 = .ok (.iastore, 1) := by decide +kernel
theorem dX12_thinks_20 : decode cX12_thinks 20 = .ok (.iinc 1 1, 3) := by decide +kernel
theorem dX12_thinks_23 : decode cX12_thinks 23 = .ok (.goto (-21), 3) := by decide +kernel
theorem dX12_thinks_26 : decode cX12_thinks 26 = .ok (.aload_n 0, 1) := by decide +kernel
theorem dX12_thinks_27 : decode cX12_thinks 27 = .ok (.iconst 1, 1) := by decide +kernel
theorem dX12_thinks_28 : decode cX12_thinks 28 = .ok (.putfield 136, 3) := by decide +kernel
theorem dX12_thinks_31 : decode cX12_thinks 31 = .ok (.return_, 1) := by decide +kernel
theorem dX12_types_0 : decode cX12_types 0 = .ok (.bipush 24, 2) := by decide +kernel
theorem dX12_types_2 : decode cX12_types 2 = .ok (.istore_n 2, 1) := by decide +kernel
theorem dX12_types_3 : decode cX12_types 3 = .ok (.iload_n 2, 1) := by decide +kernel
theorem dX12_types_4 : decode cX12_types 4 = .ok (.ifCond .lt 35, 3) := by decide +kernel
theorem dX12_types_7 : decode cX12_types 7 = .ok (.aload_n 0, 1) := by decide +kernel
theorem dX12_types_8 : decode cX12_types 8 = .ok (.getfield 43, 3) := by decide +kernel
theorem dX12_types_11 : decode cX12_types 11 = .ok (.aload_n 0, 1) := by decide +kernel
theorem dX12_types_12 : decode cX12_types 12 = .ok (.getfield 172, 3) := by decide +kernel
theorem dX12_types_15 : decode cX12_types 15 = .ok (.iload_n 1, 1) := by decide +kernel
theorem dX12_types_16 : decode cX12_types 16 = .ok (.iload_n 2, 1) := by decide +kernel
theorem dX12_types_17 : decode cX12_types 17 = .ok (.ishr, 1) := by decide +kernel
theorem dX12_types_18 : decode cX12_types 18 = .ok (.sipush 255, 3) := by decide +kernel
theorem dX12_types_21 : decode cX12_types 21 = .ok (.iand, 1) := by decide +kernel
theorem dX12_types_22 : decode cX12_types 22 = .ok (.iastore, 1) := by decide +kernel
theorem dX12_types_23 : decode cX12_types 23 = .ok (.aload_n 0, 1) := by decide +kernel
theorem dX12_types_24 : decode cX12_types 24 = .ok (.aload_n 0, 1) := by decide +kernel
theorem dX12_types_25 : decode cX12_types 25 = .ok (.getfield 172, 3) := by decide +kernel
theorem dX12_types_28 : decode cX12_types 28 = .ok (.iconst 1, 1) := by decide +kernel
theorem dX12_types_29 : decode cX12_types 29 = .ok (.iadd, 1) := by decide +kernel
theorem dX12_types_30 : decode cX12_types 30 = .ok (.putfield 172, 3) := by decide +kernel
theorem dX12_types_33 : decode cX12_types 33 = .ok (.iinc 2 (-8), 3) := by decide +kernel
theorem dX12_types_36 : decode cX12_types 36 = .ok (.goto (-33), 3) := by decide +kernel
theorem dX12_types_39 : decode cX12_types 39 = .ok (.return_, 1) := by decide +kernel
theorem dX12_waits_0 : decode cX12_waits 0 = .ok (.aload_n 0, 1) := by decide +kernel
theorem dX12_waits_1 : decode cX12_waits 1 = .ok (.getfield 67, 3) := by decide +kernel
theorem dX12_waits_4 : decode cX12_waits 4 = .ok (.aload_n 0, 1) := by decide +kernel
theorem dX12_waits_5 : decode cX12_waits 5 = .ok (.getfield 245, 3) := by decide +kernel
theorem dX12_waits_8 : decode cX12_waits 8 = .ok (.iload_n 1, 1) := by decide +kernel
theorem dX12_waits_9 : decode cX12_waits 9 = .ok (.iastore, 1) := by decide +kernel
theorem dX12_waits_10 : decode cX12_waits 10 = .ok (.aload_n 0, 1) := by decide +kernel
theorem dX12_waits_11 : decode cX12_waits 11 = .ok (.aload_n 0, 1) := by decide +kernel
theorem dX12_waits_12 : decode cX12_waits 12 = .ok (.getfield 245, 3) := by decide +kernel
theorem dX12_waits_15 : decode cX12_waits 15 = .ok (.iconst 1, 1) := by decide +kernel
theorem dX12_waits_16 : decode cX12_waits 16 = .ok (.iadd, 1) := by decide +kernel
theorem dX12_waits_17 : decode cX12_waits 17 = .ok (.putfield 245, 3) := by decide +kernel
theorem dX12_waits_20 : decode cX12_waits 20 = .ok (.return_, 1) := by decide +kernel
theorem dX12_ways_0 : decode cX12_ways 0 = .ok (.aload_n 0, 1) := by decide +kernel
theorem dX12_ways_1 : decode cX12_ways 1 = .ok (.iconst 0, 1) := by decide +kernel
theorem dX12_ways_2 : decode cX12_ways 2 = .ok (.putfield 130, 3) := by decide +kernel
theorem dX12_ways_5 : decode cX12_ways 5 = .ok (.aload_n 0, 1) := by decide +kernel
theorem dX12_ways_6 : decode cX12_ways 6 = .ok (.iload_n 1, 1) := by decide +kernel
theorem dX12_ways_7 : decode cX12_ways 7 = .ok (.iconst 1, 1) := by decide +kernel
theorem dX12_ways_8 : decode cX12_ways 8 = .ok (.bipush 10, 2) := by decide +kernel
theorem dX12_ways_10 : decode cX12_ways 10 = .ok (.invokevirtual 151, 3) := by decide +kernel
theorem dX12_ways_13 : decode cX12_ways 13 = .ok (.ifCond .ne 7, 3) := by decide +kernel
theorem dX12_ways_16 : decode cX12_ways 16 = .ok (.ldc2_w 527, 3) := by decide +kernel
theorem dX12_ways_19 : decode cX12_ways 19 = .ok (.lreturn, 1) := by decide +kernel
theorem dX12_ways_20 : decode cX12_ways 20 = .ok (.aload_n 0, 1) := by decide +kernel
theorem dX12_ways_21 : decode cX12_ways 21 = .ok (.iload_n 1, 1) := by decide +kernel
theorem dX12_ways_22 : decode cX12_ways 22 = .ok (.invokevirtual 529, 3) := by decide +kernel
theorem dX12_ways_25 : decode cX12_ways 25 = .ok (.aload_n 0, 1) := by decide +kernel
theorem dX12_ways_26 : decode cX12_ways 26 = .ok (.iload_n 1, 1) := by decide +kernel
theorem dX12_ways_27 : decode cX12_ways 27 = .ok (.invokevirtual 532, 3) := by decide +kernel
theorem dX12_ways_30 : decode cX12_ways 30 = .ok (.lreturn, 1) := by decide +kernel
theorem dX12_without_0 : decode cX12_without 0 = .ok (.iload_n 1, 1) := by decide +kernel
theorem dX12_without_1 : decode cX12_without 1 = .ok (.ifCond .ge 8, 3) := by decide +kernel
theorem dX12_without_4 : decode cX12_without 4 = .ok (.iload_n 1, 1) := by decide +kernel
theorem dX12_without_5 : decode cX12_without 5 = .ok (.ineg, 1) := by decide +kernel
theorem dX12_without_6 : decode cX12_without 6 = .ok (.goto 4, 3) := by decide +kernel
theorem dX12_without_9 : decode cX12_without 9 = .ok (.iload_n 1, 1) := by decide +kernel
theorem dX12_without_10 : decode cX12_without 10 = .ok (.ireturn, 1) := by decide +kernel
theorem dX12_worthAt_0 : decode cX12_worthAt 0 = .ok (.iconst 0, 1) := by decide +kernel
theorem dX12_worthAt_1 : decode cX12_worthAt 1 = .ok (.istore_n 2, 1) := by decide +kernel
theorem dX12_worthAt_2 : decode cX12_worthAt 2 = .ok (.iconst 0, 1) := by decide +kernel
theorem dX12_worthAt_3 : decode cX12_worthAt 3 = .ok (.istore_n 3, 1) := by decide +kernel
theorem dX12_worthAt_4 : decode cX12_worthAt 4 = .ok (.iload_n 3, 1) := by decide +kernel
theorem dX12_worthAt_5 : decode cX12_worthAt 5 = .ok (.aload_n 0, 1) := by decide +kernel
theorem dX12_worthAt_6 : decode cX12_worthAt 6 = .ok (.getfield 324, 3) := by decide +kernel
theorem dX12_worthAt_9 : decode cX12_worthAt 9 = .ok (.if_icmp .ge 36, 3) := by decide +kernel
theorem dX12_worthAt_12 : decode cX12_worthAt 12 = .ok (.aload_n 0, 1) := by decide +kernel
theorem dX12_worthAt_13 : decode cX12_worthAt 13 = .ok (.iload_n 3, 1) := by decide +kernel
theorem dX12_worthAt_14 : decode cX12_worthAt 14 = .ok (.iconst 1, 1) := by decide +kernel
theorem dX12_worthAt_15 : decode cX12_worthAt 15 = .ok (.invokevirtual 356, 3) := by decide +kernel
theorem dX12_worthAt_18 : decode cX12_worthAt 18 = .ok (.iload_n 1, 1) := by decide +kernel
theorem dX12_worthAt_19 : decode cX12_worthAt 19 = .ok (.if_icmp .ne 20, 3) := by decide +kernel
theorem dX12_worthAt_22 : decode cX12_worthAt 22 = .ok (.aload_n 0, 1) := by decide +kernel
theorem dX12_worthAt_23 : decode cX12_worthAt 23 = .ok (.iload_n 3, 1) := by decide +kernel
theorem dX12_worthAt_24 : decode cX12_worthAt 24 = .ok (.invokevirtual 359, 3) := by decide +kernel
theorem dX12_worthAt_27 : decode cX12_worthAt 27 = .ok (.ifCond .eq 12, 3) := by decide +kernel
theorem dX12_worthAt_30 : decode cX12_worthAt 30 = .ok (.iload_n 2, 1) := by decide +kernel
theorem dX12_worthAt_31 : decode cX12_worthAt 31 = .ok (.aload_n 0, 1) := by decide +kernel
theorem dX12_worthAt_32 : decode cX12_worthAt 32 = .ok (.iload_n 3, 1) := by decide +kernel
theorem dX12_worthAt_33 : decode cX12_worthAt 33 = .ok (.iconst 4, 1) := by decide +kernel
theorem dX12_worthAt_34 : decode cX12_worthAt 34 = .ok (.invokevirtual 356, 3) := by decide +kernel
theorem dX12_worthAt_37 : decode cX12_worthAt 37 = .ok (.iadd, 1) := by decide +kernel
theorem dX12_worthAt_38 : decode cX12_worthAt 38 = .ok (.istore_n 2, 1) := by decide +kernel
theorem dX12_worthAt_39 : decode cX12_worthAt 39 = .ok (.iinc 3 1, 3) := by decide +kernel
theorem dX12_worthAt_42 : decode cX12_worthAt 42 = .ok (.goto (-38), 3) := by decide +kernel
theorem dX12_worthAt_45 : decode cX12_worthAt 45 = .ok (.iload_n 2, 1) := by decide +kernel
theorem dX12_worthAt_46 : decode cX12_worthAt 46 = .ok (.ireturn, 1) := by decide +kernel
theorem dX12_worthOf_0 : decode cX12_worthOf 0 = .ok (.iconst 0, 1) := by decide +kernel
theorem dX12_worthOf_1 : decode cX12_worthOf 1 = .ok (.istore_n 2, 1) := by decide +kernel
theorem dX12_worthOf_2 : decode cX12_worthOf 2 = .ok (.iconst 0, 1) := by decide +kernel
theorem dX12_worthOf_3 : decode cX12_worthOf 3 = .ok (.istore_n 3, 1) := by decide +kernel
theorem dX12_worthOf_4 : decode cX12_worthOf 4 = .ok (.iload_n 3, 1) := by decide +kernel
theorem dX12_worthOf_5 : decode cX12_worthOf 5 = .ok (.aload_n 0, 1) := by decide +kernel
theorem dX12_worthOf_6 : decode cX12_worthOf 6 = .ok (.getfield 324, 3) := by decide +kernel
theorem dX12_worthOf_9 : decode cX12_worthOf 9 = .ok (.if_icmp .ge 27, 3) := by decide +kernel
theorem dX12_worthOf_12 : decode cX12_worthOf 12 = .ok (.iload_n 1, 1) := by decide +kernel
theorem dX12_worthOf_13 : decode cX12_worthOf 13 = .ok (.iload_n 3, 1) := by decide +kernel
theorem dX12_worthOf_14 : decode cX12_worthOf 14 = .ok (.ishr, 1) := by decide +kernel
theorem dX12_worthOf_15 : decode cX12_worthOf 15 = .ok (.iconst 1, 1) := by decide +kernel
theorem dX12_worthOf_16 : decode cX12_worthOf 16 = .ok (.iand, 1) := by decide +kernel
theorem dX12_worthOf_17 : decode cX12_worthOf 17 = .ok (.iconst 1, 1) := by decide +kernel
theorem dX12_worthOf_18 : decode cX12_worthOf 18 = .ok (.if_icmp .ne 12, 3) := by decide +kernel
theorem dX12_worthOf_21 : decode cX12_worthOf 21 = .ok (.iload_n 2, 1) := by decide +kernel
theorem dX12_worthOf_22 : decode cX12_worthOf 22 = .ok (.aload_n 0, 1) := by decide +kernel
theorem dX12_worthOf_23 : decode cX12_worthOf 23 = .ok (.iload_n 3, 1) := by decide +kernel
theorem dX12_worthOf_24 : decode cX12_worthOf 24 = .ok (.iconst 4, 1) := by decide +kernel
theorem dX12_worthOf_25 : decode cX12_worthOf 25 = .ok (.invokevirtual 356, 3) := by decide +kernel
theorem dX12_worthOf_28 : decode cX12_worthOf 28 = .ok (.iadd, 1) := by decide +kernel
theorem dX12_worthOf_29 : decode cX12_worthOf 29 = .ok (.istore_n 2, 1) := by decide +kernel
theorem dX12_worthOf_30 : decode cX12_worthOf 30 = .ok (.iinc 3 1, 3) := by decide +kernel
theorem dX12_worthOf_33 : decode cX12_worthOf 33 = .ok (.goto (-29), 3) := by decide +kernel
theorem dX12_worthOf_36 : decode cX12_worthOf 36 = .ok (.iload_n 2, 1) := by decide +kernel
theorem dX12_worthOf_37 : decode cX12_worthOf 37 = .ok (.ireturn, 1) := by decide +kernel
theorem q_100 : Cond.selects RX12 yX12_ofNeed yX12_ofNeed ∈ GW := inG 100 (by decide +kernel) (by decide +kernel)
theorem q_101 : Cond.selects RX12 yX12_isOpen yX12_isOpen ∈ GW := inG 101 (by decide +kernel) (by decide +kernel)
theorem q_106 : Cond.selects RX12 yX12_held yX12_held ∈ GW := inG 106 (by decide +kernel) (by decide +kernel)
theorem q_110 : Cond.selects RX12 yX12_due yX12_due ∈ GW := inG 110 (by decide +kernel) (by decide +kernel)
theorem q_113 : Cond.selects RX12 yX12_draw yX12_draw ∈ GW := inG 113 (by decide +kernel) (by decide +kernel)
theorem q_114 : Cond.selects RX12 yX12_reachedFrom yX12_reachedFrom ∈ GW := inG 114 (by decide +kernel) (by decide +kernel)
theorem q_116 : Cond.selects RX12 yX12_doesEnvy yX12_doesEnvy ∈ GW := inG 116 (by decide +kernel) (by decide +kernel)
theorem q_118 : Cond.selects RX12 yX12_doesSee yX12_doesSee ∈ GW := inG 118 (by decide +kernel) (by decide +kernel)
theorem q_119 : Cond.selects RX12 yX12_without yX12_without ∈ GW := inG 119 (by decide +kernel) (by decide +kernel)
theorem q_120 : Cond.selects RX12 yX12_isBetween yX12_isBetween ∈ GW := inG 120 (by decide +kernel) (by decide +kernel)
theorem q_134 : Cond.selects RX12 yX12_greater yX12_greater ∈ GW := inG 134 (by decide +kernel) (by decide +kernel)
theorem q_137 : Cond.selects RX12 yX12_highest yX12_highest ∈ GW := inG 137 (by decide +kernel) (by decide +kernel)
theorem q_138 : Cond.selects RX12 yX12_sureOf yX12_sureOf ∈ GW := inG 138 (by decide +kernel) (by decide +kernel)
theorem q_139 : Cond.selects RX12 yX12_findsChances yX12_findsChances ∈ GW := inG 139 (by decide +kernel) (by decide +kernel)
theorem q_1399 : Cond.fieldLink RX12 130 "LampRoundModel" "told" "I" ∈ GW := inG 1399 (by decide +kernel) (by decide +kernel)
theorem q_140 : Cond.selects RX12 yX12_snowsOn yX12_snowsOn ∈ GW := inG 140 (by decide +kernel) (by decide +kernel)
theorem q_1400 : Cond.fieldLink RX12 7 "LampRoundModel" "now" "[I" ∈ GW := inG 1400 (by decide +kernel) (by decide +kernel)
theorem q_1402 : Cond.fieldLink RX12 133 "LampRoundModel" "undoable" "I" ∈ GW := inG 1402 (by decide +kernel) (by decide +kernel)
theorem q_1403 : Cond.fieldLink RX12 16 "LampRoundModel" "waiting" "[I" ∈ GW := inG 1403 (by decide +kernel) (by decide +kernel)
theorem q_1404 : Cond.fieldLink RX12 136 "LampRoundModel" "isThought" "Z" ∈ GW := inG 1404 (by decide +kernel) (by decide +kernel)
theorem q_1405 : Cond.fieldLink RX12 148 "LampRoundModel" "houses" "I" ∈ GW := inG 1405 (by decide +kernel) (by decide +kernel)
theorem q_1406 : Cond.fieldLink RX12 19 "LampRoundModel" "placeOf" "[I" ∈ GW := inG 1406 (by decide +kernel) (by decide +kernel)
theorem q_1407 : Cond.fieldLink RX12 22 "LampRoundModel" "peopleOf" "[I" ∈ GW := inG 1407 (by decide +kernel) (by decide +kernel)
theorem q_1408 : Cond.fieldLink RX12 25 "LampRoundModel" "bidOf" "[I" ∈ GW := inG 1408 (by decide +kernel) (by decide +kernel)
theorem q_1409 : Cond.fieldLink RX12 28 "LampRoundModel" "saysOf" "[I" ∈ GW := inG 1409 (by decide +kernel) (by decide +kernel)
theorem q_141 : Cond.selects RX12 yX12_findsRows yX12_findsRows ∈ GW := inG 141 (by decide +kernel) (by decide +kernel)
theorem q_1410 : Cond.fieldLink RX12 31 "LampRoundModel" "friendsOf" "[I" ∈ GW := inG 1410 (by decide +kernel) (by decide +kernel)
theorem q_1411 : Cond.fieldLink RX12 166 "LampRoundModel" "flakes" "I" ∈ GW := inG 1411 (by decide +kernel) (by decide +kernel)
theorem q_1412 : Cond.fieldLink RX12 169 "LampRoundModel" "margin" "I" ∈ GW := inG 1412 (by decide +kernel) (by decide +kernel)
theorem q_1413 : Cond.fieldLink RX12 142 "LampRoundModel" "duskBut" "I" ∈ GW := inG 1413 (by decide +kernel) (by decide +kernel)
theorem q_1414 : Cond.fieldLink RX12 145 "LampRoundModel" "dueBut" "I" ∈ GW := inG 1414 (by decide +kernel) (by decide +kernel)
theorem q_1415 : Cond.fieldLink RX12 34 "LampRoundModel" "book" "[I" ∈ GW := inG 1415 (by decide +kernel) (by decide +kernel)
theorem q_1416 : Cond.fieldLink RX12 517 "LampRoundModel" "clueMany" "I" ∈ GW := inG 1416 (by decide +kernel) (by decide +kernel)
theorem q_1417 : Cond.fieldLink RX12 37 "LampRoundModel" "clueNight" "[I" ∈ GW := inG 1417 (by decide +kernel) (by decide +kernel)
theorem q_1418 : Cond.fieldLink RX12 40 "LampRoundModel" "clueSet" "[I" ∈ GW := inG 1418 (by decide +kernel) (by decide +kernel)
theorem q_1419 : Cond.fieldLink RX12 43 "LampRoundModel" "tape" "[I" ∈ GW := inG 1419 (by decide +kernel) (by decide +kernel)
theorem q_142 : Cond.selects RX12 yX12_canBe yX12_canBe ∈ GW := inG 142 (by decide +kernel) (by decide +kernel)
theorem q_1420 : Cond.fieldLink RX12 172 "LampRoundModel" "taped" "I" ∈ GW := inG 1420 (by decide +kernel) (by decide +kernel)
theorem q_1422 : Cond.fieldLink RX12 185 "LampRoundModel" "from" "I" ∈ GW := inG 1422 (by decide +kernel) (by decide +kernel)
theorem q_1423 : Cond.fieldLink RX12 188 "LampRoundModel" "token" "I" ∈ GW := inG 1423 (by decide +kernel) (by decide +kernel)
theorem q_1424 : Cond.fieldLink RX12 191 "LampRoundModel" "value" "I" ∈ GW := inG 1424 (by decide +kernel) (by decide +kernel)
theorem q_1426 : Cond.fieldLink RX12 49 "LampRoundModel" "lineMany" "[I" ∈ GW := inG 1426 (by decide +kernel) (by decide +kernel)
theorem q_143 : Cond.selects RX12 yX12_sumOf yX12_sumOf ∈ GW := inG 143 (by decide +kernel) (by decide +kernel)
theorem q_1430 : Cond.fieldLink RX12 61 "LampRoundModel" "op" "[I" ∈ GW := inG 1430 (by decide +kernel) (by decide +kernel)
theorem q_1431 : Cond.fieldLink RX12 64 "LampRoundModel" "arg" "[I" ∈ GW := inG 1431 (by decide +kernel) (by decide +kernel)
theorem q_1432 : Cond.fieldLink RX12 216 "LampRoundModel" "which" "I" ∈ GW := inG 1432 (by decide +kernel) (by decide +kernel)
theorem q_1433 : Cond.fieldLink RX12 213 "LampRoundModel" "codes" "I" ∈ GW := inG 1433 (by decide +kernel) (by decide +kernel)
theorem q_1435 : Cond.fieldLink RX12 67 "LampRoundModel" "pending" "[I" ∈ GW := inG 1435 (by decide +kernel) (by decide +kernel)
theorem q_1436 : Cond.fieldLink RX12 245 "LampRoundModel" "pendings" "I" ∈ GW := inG 1436 (by decide +kernel) (by decide +kernel)
theorem q_1437 : Cond.fieldLink RX12 207 "LampRoundModel" "readFault" "I" ∈ GW := inG 1437 (by decide +kernel) (by decide +kernel)
theorem q_1438 : Cond.fieldLink RX12 210 "LampRoundModel" "readPlace" "I" ∈ GW := inG 1438 (by decide +kernel) (by decide +kernel)
theorem q_1439 : Cond.fieldLink RX12 330 "LampRoundModel" "faultKind" "I" ∈ GW := inG 1439 (by decide +kernel) (by decide +kernel)
theorem q_144 : Cond.selects RX12 yX12_allRows yX12_allRows ∈ GW := inG 144 (by decide +kernel) (by decide +kernel)
theorem q_1440 : Cond.fieldLink RX12 70 "LampRoundModel" "faultPlace" "I" ∈ GW := inG 1440 (by decide +kernel) (by decide +kernel)
theorem q_1441 : Cond.fieldLink RX12 321 "LampRoundModel" "pathMany" "I" ∈ GW := inG 1441 (by decide +kernel) (by decide +kernel)
theorem q_1442 : Cond.fieldLink RX12 74 "LampRoundModel" "paths" "[I" ∈ GW := inG 1442 (by decide +kernel) (by decide +kernel)
theorem q_1443 : Cond.fieldLink RX12 324 "LampRoundModel" "needMany" "I" ∈ GW := inG 1443 (by decide +kernel) (by decide +kernel)
theorem q_1444 : Cond.fieldLink RX12 77 "LampRoundModel" "needs" "[I" ∈ GW := inG 1444 (by decide +kernel) (by decide +kernel)
theorem q_1448 : Cond.fieldLink RX12 327 "LampRoundModel" "roundMany" "I" ∈ GW := inG 1448 (by decide +kernel) (by decide +kernel)
theorem q_145 : Cond.selects RX12 yX12_rowsBy yX12_rowsBy ∈ GW := inG 145 (by decide +kernel) (by decide +kernel)
theorem q_1454 : Cond.fieldLink RX12 101 "LampRoundModel" "farOf" "[I" ∈ GW := inG 1454 (by decide +kernel) (by decide +kernel)
theorem q_1461 : Cond.fieldLink RX12 114 "LampRoundModel" "chances" "[I" ∈ GW := inG 1461 (by decide +kernel) (by decide +kernel)
theorem q_1462 : Cond.fieldLink RX12 117 "LampRoundModel" "chancesThen" "[I" ∈ GW := inG 1462 (by decide +kernel) (by decide +kernel)
theorem q_1463 : Cond.fieldLink RX12 120 "LampRoundModel" "rowsTo" "[J" ∈ GW := inG 1463 (by decide +kernel) (by decide +kernel)
theorem q_1464 : Cond.fieldLink RX12 124 "LampRoundModel" "rowsFrom" "[J" ∈ GW := inG 1464 (by decide +kernel) (by decide +kernel)
theorem q_162 : Cond.initialized RX12 ∈ GW := inG 162 (by decide +kernel) (by decide +kernel)
theorem q_1622 : Cond.methodLink RX12 151 yX12_isIn ∈ GW := inG 1622 (by decide +kernel) (by decide +kernel)
theorem q_1624 : Cond.instanceMethod yX12_isIn ∈ GW := inG 1624 (by decide +kernel) (by decide +kernel)
theorem q_1625 : Cond.code yX12_isIn cX12_isIn 4 (some .boolean) ∈ GW := inG 1625 (by decide +kernel) (by decide +kernel)
theorem q_1634 : Cond.methodLink RX12 155 yX12_isHouse ∈ GW := inG 1634 (by decide +kernel) (by decide +kernel)
theorem q_1636 : Cond.instanceMethod yX12_isHouse ∈ GW := inG 1636 (by decide +kernel) (by decide +kernel)
theorem q_1637 : Cond.code yX12_isHouse cX12_isHouse 2 (some .boolean) ∈ GW := inG 1637 (by decide +kernel) (by decide +kernel)
theorem q_1650 : Cond.methodLink RX12 175 yX12_types ∈ GW := inG 1650 (by decide +kernel) (by decide +kernel)
theorem q_1652 : Cond.instanceMethod yX12_types ∈ GW := inG 1652 (by decide +kernel) (by decide +kernel)
theorem q_1653 : Cond.code yX12_types cX12_types 3 none ∈ GW := inG 1653 (by decide +kernel) (by decide +kernel)
theorem q_1822 : Cond.methodLink RX12 353 yX12_findsFar ∈ GW := inG 1822 (by decide +kernel) (by decide +kernel)
theorem q_1824 : Cond.instanceMethod yX12_findsFar ∈ GW := inG 1824 (by decide +kernel) (by decide +kernel)
theorem q_1825 : Cond.code yX12_findsFar cX12_findsFar 6 none ∈ GW := inG 1825 (by decide +kernel) (by decide +kernel)
theorem q_1826 : Cond.constant RX12 349 (100000) ∈ GW := inG 1826 (by decide +kernel) (by decide +kernel)
theorem q_1843 : Cond.methodLink RX12 377 yX12_isReached ∈ GW := inG 1843 (by decide +kernel) (by decide +kernel)
theorem q_1845 : Cond.instanceMethod yX12_isReached ∈ GW := inG 1845 (by decide +kernel) (by decide +kernel)
theorem q_1846 : Cond.code yX12_isReached cX12_isReached 3 (some .boolean) ∈ GW := inG 1846 (by decide +kernel) (by decide +kernel)
theorem q_1847 : Cond.methodLink RX12 350 yX12_dusk ∈ GW := inG 1847 (by decide +kernel) (by decide +kernel)
theorem q_1849 : Cond.instanceMethod yX12_dusk ∈ GW := inG 1849 (by decide +kernel) (by decide +kernel)
theorem q_1850 : Cond.code yX12_dusk cX12_dusk 1 (some .int) ∈ GW := inG 1850 (by decide +kernel) (by decide +kernel)
theorem q_1863 : Cond.methodLink RX12 362 yX12_sinceLast ∈ GW := inG 1863 (by decide +kernel) (by decide +kernel)
theorem q_1865 : Cond.instanceMethod yX12_sinceLast ∈ GW := inG 1865 (by decide +kernel) (by decide +kernel)
theorem q_1866 : Cond.code yX12_sinceLast cX12_sinceLast 2 (some .int) ∈ GW := inG 1866 (by decide +kernel) (by decide +kernel)
theorem q_1871 : Cond.methodLink RX12 356 yX12_ofNeed ∈ GW := inG 1871 (by decide +kernel) (by decide +kernel)
theorem q_1873 : Cond.instanceMethod yX12_ofNeed ∈ GW := inG 1873 (by decide +kernel) (by decide +kernel)
theorem q_1874 : Cond.code yX12_ofNeed cX12_ofNeed 3 (some .int) ∈ GW := inG 1874 (by decide +kernel) (by decide +kernel)
theorem q_1875 : Cond.methodLink RX12 359 yX12_isOpen ∈ GW := inG 1875 (by decide +kernel) (by decide +kernel)
theorem q_1877 : Cond.instanceMethod yX12_isOpen ∈ GW := inG 1877 (by decide +kernel) (by decide +kernel)
theorem q_1878 : Cond.code yX12_isOpen cX12_isOpen 2 (some .boolean) ∈ GW := inG 1878 (by decide +kernel) (by decide +kernel)
theorem q_1895 : Cond.methodLink RX12 374 yX12_held ∈ GW := inG 1895 (by decide +kernel) (by decide +kernel)
theorem q_1897 : Cond.instanceMethod yX12_held ∈ GW := inG 1897 (by decide +kernel) (by decide +kernel)
theorem q_1898 : Cond.code yX12_held cX12_held 4 (some .int) ∈ GW := inG 1898 (by decide +kernel) (by decide +kernel)
theorem q_1911 : Cond.methodLink RX12 384 yX12_due ∈ GW := inG 1911 (by decide +kernel) (by decide +kernel)
theorem q_1913 : Cond.instanceMethod yX12_due ∈ GW := inG 1913 (by decide +kernel) (by decide +kernel)
theorem q_1914 : Cond.code yX12_due cX12_due 1 (some .int) ∈ GW := inG 1914 (by decide +kernel) (by decide +kernel)
theorem q_1923 : Cond.methodLink RX12 387 yX12_draw ∈ GW := inG 1923 (by decide +kernel) (by decide +kernel)
theorem q_1925 : Cond.instanceMethod yX12_draw ∈ GW := inG 1925 (by decide +kernel) (by decide +kernel)
theorem q_1926 : Cond.code yX12_draw cX12_draw 2 (some .int) ∈ GW := inG 1926 (by decide +kernel) (by decide +kernel)
theorem q_1927 : Cond.constant RX12 140 (1664525) ∈ GW := inG 1927 (by decide +kernel) (by decide +kernel)
theorem q_1928 : Cond.constant RX12 141 (1013904223) ∈ GW := inG 1928 (by decide +kernel) (by decide +kernel)
theorem q_1934 : Cond.methodLink RX12 435 yX12_reachedFrom ∈ GW := inG 1934 (by decide +kernel) (by decide +kernel)
theorem q_1936 : Cond.instanceMethod yX12_reachedFrom ∈ GW := inG 1936 (by decide +kernel) (by decide +kernel)
theorem q_1937 : Cond.code yX12_reachedFrom cX12_reachedFrom 4 (some .int) ∈ GW := inG 1937 (by decide +kernel) (by decide +kernel)
theorem q_1942 : Cond.methodLink RX12 422 yX12_doesEnvy ∈ GW := inG 1942 (by decide +kernel) (by decide +kernel)
theorem q_1944 : Cond.instanceMethod yX12_doesEnvy ∈ GW := inG 1944 (by decide +kernel) (by decide +kernel)
theorem q_1945 : Cond.code yX12_doesEnvy cX12_doesEnvy 3 (some .boolean) ∈ GW := inG 1945 (by decide +kernel) (by decide +kernel)
theorem q_1950 : Cond.methodLink RX12 431 yX12_doesSee ∈ GW := inG 1950 (by decide +kernel) (by decide +kernel)
theorem q_1952 : Cond.instanceMethod yX12_doesSee ∈ GW := inG 1952 (by decide +kernel) (by decide +kernel)
theorem q_1953 : Cond.code yX12_doesSee cX12_doesSee 5 (some .boolean) ∈ GW := inG 1953 (by decide +kernel) (by decide +kernel)
theorem q_1954 : Cond.methodLink RX12 425 yX12_without ∈ GW := inG 1954 (by decide +kernel) (by decide +kernel)
theorem q_1956 : Cond.instanceMethod yX12_without ∈ GW := inG 1956 (by decide +kernel) (by decide +kernel)
theorem q_1957 : Cond.code yX12_without cX12_without 2 (some .int) ∈ GW := inG 1957 (by decide +kernel) (by decide +kernel)
theorem q_1958 : Cond.methodLink RX12 428 yX12_isBetween ∈ GW := inG 1958 (by decide +kernel) (by decide +kernel)
theorem q_1960 : Cond.instanceMethod yX12_isBetween ∈ GW := inG 1960 (by decide +kernel) (by decide +kernel)
theorem q_1961 : Cond.code yX12_isBetween cX12_isBetween 9 (some .boolean) ∈ GW := inG 1961 (by decide +kernel) (by decide +kernel)
theorem q_2038 : Cond.methodLink RX12 490 yX12_greater ∈ GW := inG 2038 (by decide +kernel) (by decide +kernel)
theorem q_2040 : Cond.instanceMethod yX12_greater ∈ GW := inG 2040 (by decide +kernel) (by decide +kernel)
theorem q_2041 : Cond.code yX12_greater cX12_greater 3 (some .int) ∈ GW := inG 2041 (by decide +kernel) (by decide +kernel)
theorem q_2054 : Cond.methodLink RX12 502 yX12_highest ∈ GW := inG 2054 (by decide +kernel) (by decide +kernel)
theorem q_2056 : Cond.instanceMethod yX12_highest ∈ GW := inG 2056 (by decide +kernel) (by decide +kernel)
theorem q_2057 : Cond.code yX12_highest cX12_highest 4 (some .int) ∈ GW := inG 2057 (by decide +kernel) (by decide +kernel)
theorem q_2066 : Cond.methodLink RX12 514 yX12_sureOf ∈ GW := inG 2066 (by decide +kernel) (by decide +kernel)
theorem q_2068 : Cond.instanceMethod yX12_sureOf ∈ GW := inG 2068 (by decide +kernel) (by decide +kernel)
theorem q_2069 : Cond.code yX12_sureOf cX12_sureOf 6 (some .int) ∈ GW := inG 2069 (by decide +kernel) (by decide +kernel)
theorem q_2070 : Cond.methodLink RX12 511 yX12_findsChances ∈ GW := inG 2070 (by decide +kernel) (by decide +kernel)
theorem q_2072 : Cond.instanceMethod yX12_findsChances ∈ GW := inG 2072 (by decide +kernel) (by decide +kernel)
theorem q_2073 : Cond.code yX12_findsChances cX12_findsChances 3 none ∈ GW := inG 2073 (by decide +kernel) (by decide +kernel)
theorem q_2074 : Cond.constant RX12 507 (1000000) ∈ GW := inG 2074 (by decide +kernel) (by decide +kernel)
theorem q_2075 : Cond.methodLink RX12 508 yX12_snowsOn ∈ GW := inG 2075 (by decide +kernel) (by decide +kernel)
theorem q_2077 : Cond.instanceMethod yX12_snowsOn ∈ GW := inG 2077 (by decide +kernel) (by decide +kernel)
theorem q_2078 : Cond.code yX12_snowsOn cX12_snowsOn 5 none ∈ GW := inG 2078 (by decide +kernel) (by decide +kernel)
theorem q_2079 : Cond.constantLong RX12 505 (1000) ∈ GW := inG 2079 (by decide +kernel) (by decide +kernel)
theorem q_2092 : Cond.constantLong RX12 527 (-1) ∈ GW := inG 2092 (by decide +kernel) (by decide +kernel)
theorem q_2093 : Cond.methodLink RX12 529 yX12_findsRows ∈ GW := inG 2093 (by decide +kernel) (by decide +kernel)
theorem q_2095 : Cond.instanceMethod yX12_findsRows ∈ GW := inG 2095 (by decide +kernel) (by decide +kernel)
theorem q_2096 : Cond.code yX12_findsRows cX12_findsRows 4 none ∈ GW := inG 2096 (by decide +kernel) (by decide +kernel)
theorem q_2097 : Cond.methodLink RX12 520 yX12_canBe ∈ GW := inG 2097 (by decide +kernel) (by decide +kernel)
theorem q_2099 : Cond.instanceMethod yX12_canBe ∈ GW := inG 2099 (by decide +kernel) (by decide +kernel)
theorem q_2100 : Cond.code yX12_canBe cX12_canBe 4 (some .boolean) ∈ GW := inG 2100 (by decide +kernel) (by decide +kernel)
theorem q_2101 : Cond.methodLink RX12 523 yX12_sumOf ∈ GW := inG 2101 (by decide +kernel) (by decide +kernel)
theorem q_2103 : Cond.instanceMethod yX12_sumOf ∈ GW := inG 2103 (by decide +kernel) (by decide +kernel)
theorem q_2104 : Cond.code yX12_sumOf cX12_sumOf 7 (some .long) ∈ GW := inG 2104 (by decide +kernel) (by decide +kernel)
theorem q_2105 : Cond.methodLink RX12 532 yX12_allRows ∈ GW := inG 2105 (by decide +kernel) (by decide +kernel)
theorem q_2107 : Cond.instanceMethod yX12_allRows ∈ GW := inG 2107 (by decide +kernel) (by decide +kernel)
theorem q_2108 : Cond.code yX12_allRows cX12_allRows 5 (some .long) ∈ GW := inG 2108 (by decide +kernel) (by decide +kernel)
theorem q_2113 : Cond.methodLink RX12 536 yX12_rowsBy ∈ GW := inG 2113 (by decide +kernel) (by decide +kernel)
theorem q_2115 : Cond.instanceMethod yX12_rowsBy ∈ GW := inG 2115 (by decide +kernel) (by decide +kernel)
theorem q_2116 : Cond.code yX12_rowsBy cX12_rowsBy 3 (some .long) ∈ GW := inG 2116 (by decide +kernel) (by decide +kernel)
theorem q_46 : Cond.selects RX12 yX12_isIn yX12_isIn ∈ GW := inG 46 (by decide +kernel) (by decide +kernel)
theorem q_48 : Cond.selects RX12 yX12_isHouse yX12_isHouse ∈ GW := inG 48 (by decide +kernel) (by decide +kernel)
theorem q_50 : Cond.selects RX12 yX12_types yX12_types ∈ GW := inG 50 (by decide +kernel) (by decide +kernel)
theorem q_89 : Cond.selects RX12 yX12_findsFar yX12_findsFar ∈ GW := inG 89 (by decide +kernel) (by decide +kernel)
theorem q_93 : Cond.selects RX12 yX12_isReached yX12_isReached ∈ GW := inG 93 (by decide +kernel) (by decide +kernel)
theorem q_94 : Cond.selects RX12 yX12_dusk yX12_dusk ∈ GW := inG 94 (by decide +kernel) (by decide +kernel)
theorem q_98 : Cond.selects RX12 yX12_sinceLast yX12_sinceLast ∈ GW := inG 98 (by decide +kernel) (by decide +kernel)
theorem hdV_X12_allRows : yX12_allRows.cls = RX12 ∧ yX12_allRows.cls ≠ "java/lang/invoke/MethodHandle" ∧ yX12_allRows.cls ≠ "java/lang/invoke/VarHandle" ∧ (parseMethodDescriptor yX12_allRows.desc).map (fun d => d.parameters.length) = some 1 := by decide +kernel
theorem hdV_X12_canBe : yX12_canBe.cls = RX12 ∧ yX12_canBe.cls ≠ "java/lang/invoke/MethodHandle" ∧ yX12_canBe.cls ≠ "java/lang/invoke/VarHandle" ∧ (parseMethodDescriptor yX12_canBe.desc).map (fun d => d.parameters.length) = some 2 := by decide +kernel
theorem hdV_X12_doesEnvy : yX12_doesEnvy.cls = RX12 ∧ yX12_doesEnvy.cls ≠ "java/lang/invoke/MethodHandle" ∧ yX12_doesEnvy.cls ≠ "java/lang/invoke/VarHandle" ∧ (parseMethodDescriptor yX12_doesEnvy.desc).map (fun d => d.parameters.length) = some 2 := by decide +kernel
theorem hdV_X12_doesSee : yX12_doesSee.cls = RX12 ∧ yX12_doesSee.cls ≠ "java/lang/invoke/MethodHandle" ∧ yX12_doesSee.cls ≠ "java/lang/invoke/VarHandle" ∧ (parseMethodDescriptor yX12_doesSee.desc).map (fun d => d.parameters.length) = some 2 := by decide +kernel
theorem hdV_X12_draw : yX12_draw.cls = RX12 ∧ yX12_draw.cls ≠ "java/lang/invoke/MethodHandle" ∧ yX12_draw.cls ≠ "java/lang/invoke/VarHandle" ∧ (parseMethodDescriptor yX12_draw.desc).map (fun d => d.parameters.length) = some 1 := by decide +kernel
theorem hdV_X12_due : yX12_due.cls = RX12 ∧ yX12_due.cls ≠ "java/lang/invoke/MethodHandle" ∧ yX12_due.cls ≠ "java/lang/invoke/VarHandle" ∧ (parseMethodDescriptor yX12_due.desc).map (fun d => d.parameters.length) = some 0 := by decide +kernel
theorem hdV_X12_dusk : yX12_dusk.cls = RX12 ∧ yX12_dusk.cls ≠ "java/lang/invoke/MethodHandle" ∧ yX12_dusk.cls ≠ "java/lang/invoke/VarHandle" ∧ (parseMethodDescriptor yX12_dusk.desc).map (fun d => d.parameters.length) = some 0 := by decide +kernel
theorem hdV_X12_findsChances : yX12_findsChances.cls = RX12 ∧ yX12_findsChances.cls ≠ "java/lang/invoke/MethodHandle" ∧ yX12_findsChances.cls ≠ "java/lang/invoke/VarHandle" ∧ (parseMethodDescriptor yX12_findsChances.desc).map (fun d => d.parameters.length) = some 1 := by decide +kernel
theorem hdV_X12_findsFar : yX12_findsFar.cls = RX12 ∧ yX12_findsFar.cls ≠ "java/lang/invoke/MethodHandle" ∧ yX12_findsFar.cls ≠ "java/lang/invoke/VarHandle" ∧ (parseMethodDescriptor yX12_findsFar.desc).map (fun d => d.parameters.length) = some 1 := by decide +kernel
theorem hdV_X12_findsRows : yX12_findsRows.cls = RX12 ∧ yX12_findsRows.cls ≠ "java/lang/invoke/MethodHandle" ∧ yX12_findsRows.cls ≠ "java/lang/invoke/VarHandle" ∧ (parseMethodDescriptor yX12_findsRows.desc).map (fun d => d.parameters.length) = some 1 := by decide +kernel
theorem hdV_X12_greater : yX12_greater.cls = RX12 ∧ yX12_greater.cls ≠ "java/lang/invoke/MethodHandle" ∧ yX12_greater.cls ≠ "java/lang/invoke/VarHandle" ∧ (parseMethodDescriptor yX12_greater.desc).map (fun d => d.parameters.length) = some 2 := by decide +kernel
theorem hdV_X12_held : yX12_held.cls = RX12 ∧ yX12_held.cls ≠ "java/lang/invoke/MethodHandle" ∧ yX12_held.cls ≠ "java/lang/invoke/VarHandle" ∧ (parseMethodDescriptor yX12_held.desc).map (fun d => d.parameters.length) = some 3 := by decide +kernel
theorem hdV_X12_highest : yX12_highest.cls = RX12 ∧ yX12_highest.cls ≠ "java/lang/invoke/MethodHandle" ∧ yX12_highest.cls ≠ "java/lang/invoke/VarHandle" ∧ (parseMethodDescriptor yX12_highest.desc).map (fun d => d.parameters.length) = some 1 := by decide +kernel
theorem hdV_X12_isBetween : yX12_isBetween.cls = RX12 ∧ yX12_isBetween.cls ≠ "java/lang/invoke/MethodHandle" ∧ yX12_isBetween.cls ≠ "java/lang/invoke/VarHandle" ∧ (parseMethodDescriptor yX12_isBetween.desc).map (fun d => d.parameters.length) = some 3 := by decide +kernel
theorem hdV_X12_isHouse : yX12_isHouse.cls = RX12 ∧ yX12_isHouse.cls ≠ "java/lang/invoke/MethodHandle" ∧ yX12_isHouse.cls ≠ "java/lang/invoke/VarHandle" ∧ (parseMethodDescriptor yX12_isHouse.desc).map (fun d => d.parameters.length) = some 1 := by decide +kernel
theorem hdV_X12_isIn : yX12_isIn.cls = RX12 ∧ yX12_isIn.cls ≠ "java/lang/invoke/MethodHandle" ∧ yX12_isIn.cls ≠ "java/lang/invoke/VarHandle" ∧ (parseMethodDescriptor yX12_isIn.desc).map (fun d => d.parameters.length) = some 3 := by decide +kernel
theorem hdV_X12_isOpen : yX12_isOpen.cls = RX12 ∧ yX12_isOpen.cls ≠ "java/lang/invoke/MethodHandle" ∧ yX12_isOpen.cls ≠ "java/lang/invoke/VarHandle" ∧ (parseMethodDescriptor yX12_isOpen.desc).map (fun d => d.parameters.length) = some 1 := by decide +kernel
theorem hdV_X12_isReached : yX12_isReached.cls = RX12 ∧ yX12_isReached.cls ≠ "java/lang/invoke/MethodHandle" ∧ yX12_isReached.cls ≠ "java/lang/invoke/VarHandle" ∧ (parseMethodDescriptor yX12_isReached.desc).map (fun d => d.parameters.length) = some 2 := by decide +kernel
theorem hdV_X12_ofNeed : yX12_ofNeed.cls = RX12 ∧ yX12_ofNeed.cls ≠ "java/lang/invoke/MethodHandle" ∧ yX12_ofNeed.cls ≠ "java/lang/invoke/VarHandle" ∧ (parseMethodDescriptor yX12_ofNeed.desc).map (fun d => d.parameters.length) = some 2 := by decide +kernel
theorem hdV_X12_reachedFrom : yX12_reachedFrom.cls = RX12 ∧ yX12_reachedFrom.cls ≠ "java/lang/invoke/MethodHandle" ∧ yX12_reachedFrom.cls ≠ "java/lang/invoke/VarHandle" ∧ (parseMethodDescriptor yX12_reachedFrom.desc).map (fun d => d.parameters.length) = some 1 := by decide +kernel
theorem hdV_X12_rowsBy : yX12_rowsBy.cls = RX12 ∧ yX12_rowsBy.cls ≠ "java/lang/invoke/MethodHandle" ∧ yX12_rowsBy.cls ≠ "java/lang/invoke/VarHandle" ∧ (parseMethodDescriptor yX12_rowsBy.desc).map (fun d => d.parameters.length) = some 2 := by decide +kernel
theorem hdV_X12_sinceLast : yX12_sinceLast.cls = RX12 ∧ yX12_sinceLast.cls ≠ "java/lang/invoke/MethodHandle" ∧ yX12_sinceLast.cls ≠ "java/lang/invoke/VarHandle" ∧ (parseMethodDescriptor yX12_sinceLast.desc).map (fun d => d.parameters.length) = some 1 := by decide +kernel
theorem hdV_X12_snowsOn : yX12_snowsOn.cls = RX12 ∧ yX12_snowsOn.cls ≠ "java/lang/invoke/MethodHandle" ∧ yX12_snowsOn.cls ≠ "java/lang/invoke/VarHandle" ∧ (parseMethodDescriptor yX12_snowsOn.desc).map (fun d => d.parameters.length) = some 0 := by decide +kernel
theorem hdV_X12_sumOf : yX12_sumOf.cls = RX12 ∧ yX12_sumOf.cls ≠ "java/lang/invoke/MethodHandle" ∧ yX12_sumOf.cls ≠ "java/lang/invoke/VarHandle" ∧ (parseMethodDescriptor yX12_sumOf.desc).map (fun d => d.parameters.length) = some 3 := by decide +kernel
theorem hdV_X12_sureOf : yX12_sureOf.cls = RX12 ∧ yX12_sureOf.cls ≠ "java/lang/invoke/MethodHandle" ∧ yX12_sureOf.cls ≠ "java/lang/invoke/VarHandle" ∧ (parseMethodDescriptor yX12_sureOf.desc).map (fun d => d.parameters.length) = some 3 := by decide +kernel
theorem hdV_X12_types : yX12_types.cls = RX12 ∧ yX12_types.cls ≠ "java/lang/invoke/MethodHandle" ∧ yX12_types.cls ≠ "java/lang/invoke/VarHandle" ∧ (parseMethodDescriptor yX12_types.desc).map (fun d => d.parameters.length) = some 1 := by decide +kernel
theorem hdV_X12_without : yX12_without.cls = RX12 ∧ yX12_without.cls ≠ "java/lang/invoke/MethodHandle" ∧ yX12_without.cls ≠ "java/lang/invoke/VarHandle" ∧ (parseMethodDescriptor yX12_without.desc).map (fun d => d.parameters.length) = some 1 := by decide +kernel
theorem inX12 : ∀ w ∈ u_ws RX12 TX12 70, w ∈ GW := inGs _ [1469, 1471, 1473, 1475, 1477, 1479, 1481, 1483, 1485, 1487, 1489, 1491, 1493, 1495, 1497, 1499, 1501, 1503, 1505, 1507, 1509, 1511, 1513, 1515, 1517, 1519, 1521, 1523, 1525, 1527, 1529, 1531, 1533, 1535, 1537, 1539, 1541, 1543, 1545, 1547, 1549, 1551, 1553, 1555, 1557, 1559, 1561, 1563, 1565, 1567, 1569, 1571, 1573, 1575, 1577, 1579, 1581, 1583, 1585, 1587, 1589, 1591, 1593, 1595, 1597, 1599, 1601, 1603, 1605, 1607] (by decide +kernel) (by decide +kernel)
