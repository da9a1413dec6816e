theorem dX10_take_0 : decode cX10_take 0 = .ok (.aload_n 0, 1) := by decide +kernel
theorem dX10_take_1 : decode cX10_take 1 = .ok (.getfield 12, 3) := by decide +kernel
theorem dX10_take_4 : decode cX10_take 4 = .ok (.aload_n 1, 1) := by decide +kernel
theorem dX10_take_5 : decode cX10_take 5 = .ok (.getfield 12, 3) := by decide +kernel
theorem dX10_take_8 : decode cX10_take 8 = .ok (.invokevirtual 86, 3) := by decide +kernel
theorem dX10_take_11 : decode cX10_take 11 = .ok (.aload_n 0, 1) := by decide +kernel
theorem dX10_take_12 : decode cX10_take 12 = .ok (.getfield 21, 3) := by decide +kernel
theorem dX10_take_15 : decode cX10_take 15 = .ok (.aload_n 1, 1) := by decide +kernel
theorem dX10_take_16 : decode cX10_take 16 = .ok (.getfield 21, 3) := by decide +kernel
theorem dX10_take_19 : decode cX10_take 19 = .ok (.invokevirtual 90, 3) := by decide +kernel
theorem dX10_take_22 : decode cX10_take 22 = .ok (.aload_n 0, 1) := by decide +kernel
theorem dX10_take_23 : decode cX10_take 23 = .ok (.getfield 28, 3) := by decide +kernel
theorem dX10_take_26 : decode cX10_take 26 = .ok (.aload_n 1, 1) := by decide +kernel
theorem dX10_take_27 : decode cX10_take 27 = .ok (.getfield 28, 3) := by decide +kernel
theorem dX10_take_30 : decode cX10_take 30 = .ok (.invokevirtual 93, 3) := by decide +kernel
theorem dX10_take_33 : decode cX10_take 33 = .ok (.aload_n 0, 1) := by decide +kernel
theorem dX10_take_34 : decode cX10_take 34 = .ok (.getfield 35, 3) := by decide +kernel
theorem dX10_take_37 : decode cX10_take 37 = .ok (.aload_n 1, 1) := by decide +kernel
theorem dX10_take_38 : decode cX10_take 38 = .ok (.getfield 35, 3) := by decide +kernel
theorem dX10_take_41 : decode cX10_take 41 = .ok (.invokevirtual 96, 3) := by decide +kernel
theorem dX10_take_44 : decode cX10_take 44 = .ok (.aload_n 0, 1) := by decide +kernel
theorem dX10_take_45 : decode cX10_take 45 = .ok (.getfield 42, 3) := by decide +kernel
theorem dX10_take_48 : decode cX10_take 48 = .ok (.aload_n 1, 1) := by decide +kernel
theorem dX10_take_49 : decode cX10_take 49 = .ok (.getfield 42, 3) := by decide +kernel
theorem dX10_take_52 : decode cX10_take 52 = .ok (.invokevirtual 99, 3) := by decide +kernel
theorem dX10_take_55 : decode cX10_take 55 = .ok (.aload_n 0, 1) := by decide +kernel
theorem dX10_take_56 : decode cX10_take 56 = .ok (.getfield 46, 3) := by decide +kernel
theorem dX10_take_59 : decode cX10_take 59 = .ok (.aload_n 1, 1) := by decide +kernel
theorem dX10_take_60 : decode cX10_take 60 = .ok (.getfield 46, 3) := by decide +kernel
theorem dX10_take_63 : decode cX10_take 63 = .ok (.invokevirtual 99, 3) := by decide +kernel
theorem dX10_take_66 : decode cX10_take 66 = .ok (.aload_n 0, 1) := by decide +kernel
theorem dX10_take_67 : decode cX10_take 67 = .ok (.getfield 52, 3) := by decide +kernel
theorem dX10_take_70 : decode cX10_take 70 = .ok (.aload_n 1, 1) := by decide +kernel
theorem dX10_take_71 : decode cX10_take 71 = .ok (.getfield 52, 3) := by decide +kernel
theorem dX10_take_74 : decode cX10_take 74 = .ok (.invokevirtual 102, 3) := by decide +kernel
theorem dX10_take_77 : decode cX10_take 77 = .ok (.aload_n 0, 1) := by decide +kernel
theorem dX10_take_78 : decode cX10_take 78 = .ok (.getfield 59, 3) := by decide +kernel
theorem dX10_take_81 : decode cX10_take 81 = .ok (.aload_n 1, 1) := by decide +kernel
theorem dX10_take_82 : decode cX10_take 82 = .ok (.getfield 59, 3) := by decide +kernel
theorem dX10_take_85 : decode cX10_take 85 = .ok (.invokevirtual 105, 3) := by decide +kernel
theorem dX10_take_88 : decode cX10_take 88 = .ok (.aload_n 1, 1) := by decide +kernel
theorem dX10_take_89 : decode cX10_take 89 = .ok (.getfield 63, 3) := by decide +kernel
theorem dX10_take_92 : decode cX10_take 92 = .ok (.iconst 0, 1) := by decide +kernel
theorem dX10_take_93 : decode cX10_take 93 = .ok (.aload_n 0, 1) := by decide +kernel
theorem dX10_take_94 : decode cX10_take 94 = .ok (.getfield 63, 3) := by decide +kernel
theorem dX10_take_97 : decode cX10_take 97 = .ok (.iconst 0, 1) := by decide +kernel
theorem dX10_take_98 : decode cX10_take 98 = .ok (.sipush 900, 3) := by decide +kernel
theorem dX10_take_101 : decode cX10_take 101 = .ok (.invokestatic 108, 3) := by decide +kernel
theorem dX10_take_104 : decode cX10_take 104 = .ok (.aload_n 0, 1) := by decide +kernel
theorem dX10_take_105 : decode cX10_take 105 = .ok (.aload_n 1, 1) := by decide +kernel
theorem dX10_take_106 : decode cX10_take 106 = .ok (.getfield 114, 3) := by decide +kernel
theorem dX10_take_109 : decode cX10_take 109 = .ok (.putfield 114, 3) := by decide +kernel
theorem dX10_take_112 : decode cX10_take 112 = .ok (.aload_n 0, 1) := by decide +kernel
theorem dX10_take_113 : decode cX10_take 113 = .ok (.aload_n 1, 1) := by decide +kernel
theorem dX10_take_114 : decode cX10_take 114 = .ok (.getfield 117, 3) := by decide +kernel
theorem dX10_take_117 : decode cX10_take 117 = .ok (.putfield 117, 3) := by decide +kernel
theorem dX10_take_120 : decode cX10_take 120 = .ok (.aload_n 0, 1) := by decide +kernel
theorem dX10_take_121 : decode cX10_take 121 = .ok (.aload_n 1, 1) := by decide +kernel
theorem dX10_take_122 : decode cX10_take 122 = .ok (.getfield 67, 3) := by decide +kernel
theorem dX10_take_125 : decode cX10_take 125 = .ok (.putfield 67, 3) := by decide +kernel
theorem dX10_take_128 : decode cX10_take 128 = .ok (.aload_n 0, 1) := by decide +kernel
theorem dX10_take_129 : decode cX10_take 129 = .ok (.aload_n 1, 1) := by decide +kernel
theorem dX10_take_130 : decode cX10_take 130 = .ok (.getfield 71, 3) := by decide +kernel
theorem dX10_take_133 : decode cX10_take 133 = .ok (.putfield 71, 3) := by decide +kernel
theorem dX10_take_136 : decode cX10_take 136 = .ok (.return_, 1) := by decide +kernel
theorem dX11_ask_0 : decode cX11_ask 0 = .ok (.iload_n 1, 1) := by decide +kernel
theorem dX11_ask_1 : decode cX11_ask 1 = .ok (.iconst 1, 1) := by decide +kernel
theorem dX11_ask_2 : decode cX11_ask 2 = .ok (.if_icmp .lt 18, 3) := by decide +kernel
theorem dX11_ask_5 : decode cX11_ask 5 = .ok (.iload_n 1, 1) := by decide +kernel
theorem dX11_ask_6 : decode cX11_ask 6 = .ok (.bipush 10, 2) := by decide +kernel
theorem dX11_ask_8 : decode cX11_ask 8 = .ok (.if_icmp .gt 12, 3) := by decide +kernel
theorem dX11_ask_11 : decode cX11_ask 11 = .ok (.iload_n 2, 1) := by decide +kernel
theorem dX11_ask_12 : decode cX11_ask 12 = .ok (.ifCond .lt 8, 3) := by decide +kernel
theorem dX11_ask_15 : decode cX11_ask 15 = .ok (.iload_n 2, 1) := by decide +kernel
theorem dX11_ask_16 : decode cX11_ask 16 = .ok (.iconst 1, 1) := by decide +kernel
theorem dX11_ask_17 : decode cX11_ask 17 = .ok (.if_icmp .le 5, 3) := by decide +kernel
theorem dX11_ask_20 : decode cX11_ask 20 = .ok (.iconst (-1), 1) := by decide +kernel
theorem dX11_ask_21 : decode cX11_ask 21 = .ok (.ireturn, 1) := by decide +kernel
theorem dX11_ask_22 : decode cX11_ask 22 = .ok (.aload_n 0, 1) := by decide +kernel
theorem dX11_ask_23 : decode cX11_ask 23 = .ok (.getfield 61, 3) := by decide +kernel
theorem dX11_ask_26 : decode cX11_ask 26 = .ok (.aload_n 0, 1) := by decide +kernel
theorem dX11_ask_27 : decode cX11_ask 27 = .ok (.getfield 12, 3) := by decide +kernel
theorem dX11_ask_30 : decode cX11_ask 30 = .ok (.iload_n 1, 1) := by decide +kernel
theorem dX11_ask_31 : decode cX11_ask 31 = .ok (.invokevirtual 358, 3) := by decide +kernel
theorem dX11_ask_34 : decode cX11_ask 34 = .ok (.lstore_n 3, 1) := by decide +kernel
theorem dX11_ask_35 : decode cX11_ask 35 = .ok (.lload_n 3, 1) := by decide +kernel
theorem dX11_ask_36 : decode cX11_ask 36 = .ok (.lconst 0, 1) := by decide +kernel
theorem dX11_ask_37 : decode cX11_ask 37 = .ok (.lcmp, 1) := by decide +kernel
theorem dX11_ask_38 : decode cX11_ask 38 = .ok (.ifCond .ne 5, 3) := by decide +kernel
theorem dX11_ask_41 : decode cX11_ask 41 = .ok (.iconst (-1), 1) := by decide +kernel
theorem dX11_ask_42 : decode cX11_ask 42 = .ok (.ireturn, 1) := by decide +kernel
theorem dX11_ask_43 : decode cX11_ask 43 = .ok (.aload_n 0, 1) := by decide +kernel
theorem dX11_ask_44 : decode cX11_ask 44 = .ok (.getfield 61, 3) := by decide +kernel
theorem dX11_ask_47 : decode cX11_ask 47 = .ok (.lload_n 3, 1) := by decide +kernel
theorem dX11_ask_48 : decode cX11_ask 48 = .ok (.iload_n 1, 1) := by decide +kernel
theorem dX11_ask_49 : decode cX11_ask 49 = .ok (.aload_n 0, 1) := by decide +kernel
theorem dX11_ask_50 : decode cX11_ask 50 = .ok (.getfield 12, 3) := by decide +kernel
theorem dX11_ask_53 : decode cX11_ask 53 = .ok (.getfield 79, 3) := by decide +kernel
theorem dX11_ask_56 : decode cX11_ask 56 = .ok (.getfield 89, 3) := by decide +kernel
theorem dX11_ask_59 : decode cX11_ask 59 = .ok (.invokevirtual 366, 3) := by decide +kernel
theorem dX11_ask_62 : decode cX11_ask 62 = .ok (.istore 5, 2) := by decide +kernel
theorem dX11_ask_64 : decode cX11_ask 64 = .ok (.iload_n 2, 1) := by decide +kernel
theorem dX11_ask_65 : decode cX11_ask 65 = .ok (.ifCond .ne 11, 3) := by decide +kernel
theorem dX11_ask_68 : decode cX11_ask 68 = .ok (.iload 5, 2) := by decide +kernel
theorem dX11_ask_70 : decode cX11_ask 70 = .ok (.bipush 10, 2) := by decide +kernel
theorem dX11_ask_72 : decode cX11_ask 72 = .ok (.idiv, 1) := by decide +kernel
theorem dX11_ask_73 : decode cX11_ask 73 = .ok (.goto 8, 3) := by decide +kernel
theorem dX11_ask_76 : decode cX11_ask 76 = .ok (.iload 5, 2) := by decide +kernel
theorem dX11_ask_78 : decode cX11_ask 78 = .ok (.bipush 10, 2) := by decide +kernel
theorem dX11_ask_80 : decode cX11_ask 80 = .ok (.irem, 1) := by decide +kernel
theorem dX11_ask_81 : decode cX11_ask 81 = .ok (.ireturn, 1) := by decide +kernel
theorem dX11_been_0 : decode cX11_been 0 = .ok (.iload_n 1, 1) := by decide +kernel
theorem dX11_been_1 : decode cX11_been 1 = .ok (.iconst 1, 1) := by decide +kernel
theorem dX11_been_2 : decode cX11_been 2 = .ok (.if_icmp .lt 18, 3) := by decide +kernel
theorem dX11_been_5 : decode cX11_been 5 = .ok (.iload_n 1, 1) := by decide +kernel
theorem dX11_been_6 : decode cX11_been 6 = .ok (.bipush 10, 2) := by decide +kernel
theorem dX11_been_8 : decode cX11_been 8 = .ok (.if_icmp .gt 12, 3) := by decide +kernel
theorem dX11_been_11 : decode cX11_been 11 = .ok (.iload_n 2, 1) := by decide +kernel
theorem dX11_been_12 : decode cX11_been 12 = .ok (.ifCond .lt 8, 3) := by decide +kernel
theorem dX11_been_15 : decode cX11_been 15 = .ok (.iload_n 2, 1) := by decide +kernel
theorem dX11_been_16 : decode cX11_been 16 = .ok (.iload_n 1, 1) := by decide +kernel
theorem dX11_been_17 : decode cX11_been 17 = .ok (.if_icmp .lt 5, 3) := by decide +kernel
theorem dX11_been_20 : decode cX11_been 20 = .ok (.iconst (-1), 1) := by decide +kernel
theorem dX11_been_21 : decode cX11_been 21 = .ok (.ireturn, 1) := by decide +kernel
theorem dX11_been_22 : decode cX11_been 22 = .ok (.aload_n 0, 1) := by decide +kernel
theorem dX11_been_23 : decode cX11_been 23 = .ok (.getfield 61, 3) := by decide +kernel
theorem dX11_been_26 : decode cX11_been 26 = .ok (.aload_n 0, 1) := by decide +kernel
theorem dX11_been_27 : decode cX11_been 27 = .ok (.getfield 12, 3) := by decide +kernel
theorem dX11_been_30 : decode cX11_been 30 = .ok (.iload_n 1, 1) := by decide +kernel
theorem dX11_been_31 : decode cX11_been 31 = .ok (.invokevirtual 358, 3) := by decide +kernel
theorem dX11_been_34 : decode cX11_been 34 = .ok (.pop2, 1) := by decide +kernel
theorem dX11_been_35 : decode cX11_been 35 = .ok (.iconst 0, 1) := by decide +kernel
theorem dX11_been_36 : decode cX11_been 36 = .ok (.istore_n 3, 1) := by decide +kernel
theorem dX11_been_37 : decode cX11_been 37 = .ok (.iconst 0, 1) := by decide +kernel
theorem dX11_been_38 : decode cX11_been 38 = .ok (.istore 4, 2) := by decide +kernel
theorem dX11_been_40 : decode cX11_been 40 = .ok (.iload 4, 2) := by decide +kernel
theorem dX11_been_42 : decode cX11_been 42 = .ok (.aload_n 0, 1) := by decide +kernel
theorem dX11_been_43 : decode cX11_been 43 = .ok (.getfield 12, 3) := by decide +kernel
theorem dX11_been_46 : decode cX11_been 46 = .ok (.getfield 79, 3) := by decide +kernel
theorem dX11_been_49 : decode cX11_been 49 = .ok (.getfield 89, 3) := by decide +kernel
theorem dX11_been_52 : decode cX11_been 52 = .ok (.if_icmp .ge 31, 3) := by decide +kernel
theorem dX11_been_55 : decode cX11_been 55 = .ok (.aload_n 0, 1) := by decide +kernel
theorem dX11_been_56 : decode cX11_been 56 = .ok (.getfield 61, 3) := by decide +kernel
theorem dX11_been_59 : decode cX11_been 59 = .ok (.iload_n 2, 1) := by decide +kernel
theorem dX11_been_60 : decode cX11_been 60 = .ok (.iload 4, 2) := by decide +kernel
theorem dX11_been_62 : decode cX11_been 62 = .ok (.invokevirtual 362, 3) := by decide +kernel
theorem dX11_been_65 : decode cX11_been 65 = .ok (.lconst 0, 1) := by decide +kernel
theorem dX11_been_66 : decode cX11_been 66 = .ok (.lcmp, 1) := by decide +kernel
theorem dX11_been_67 : decode cX11_been 67 = .ok (.ifCond .le 10, 3) := by decide +kernel
theorem dX11_been_70 : decode cX11_been 70 = .ok (.iload_n 3, 1) := by decide +kernel
theorem dX11_been_71 : decode cX11_been 71 = .ok (.iconst 1, 1) := by decide +kernel
theorem dX11_been_72 : decode cX11_been 72 = .ok (.iload 4, 2) := by decide +kernel
theorem dX11_been_74 : decode cX11_been 74 = .ok (.ishl, 1) := by decide +kernel
theorem dX11_been_75 : decode cX11_been 75 = .ok (.ior, 1) := by decide +kernel
theorem dX11_been_76 : decode cX11_been 76 = .ok (.istore_n 3, 1) := by decide +kernel
theorem dX11_been_77 : decode cX11_been 77 = .ok (.iinc 4 1, 3) := by decide +kernel
theorem dX11_been_80 : decode cX11_been 80 = .ok (.goto (-40), 3) := by decide +kernel
theorem dX11_been_83 : decode cX11_been 83 = .ok (.iload_n 3, 1) := by decide +kernel
theorem dX11_been_84 : decode cX11_been 84 = .ok (.ireturn, 1) := by decide +kernel
theorem dX11_best_0 : decode cX11_best 0 = .ok (.aload_n 0, 1) := by decide +kernel
theorem dX11_best_1 : decode cX11_best 1 = .ok (.getfield 12, 3) := by decide +kernel
theorem dX11_best_4 : decode cX11_best 4 = .ok (.getfield 79, 3) := by decide +kernel
theorem dX11_best_7 : decode cX11_best 7 = .ok (.iload_n 1, 1) := by decide +kernel
theorem dX11_best_8 : decode cX11_best 8 = .ok (.invokevirtual 111, 3) := by decide +kernel
theorem dX11_best_11 : decode cX11_best 11 = .ok (.ifCond .eq 14, 3) := by decide +kernel
theorem dX11_best_14 : decode cX11_best 14 = .ok (.iload_n 2, 1) := by decide +kernel
theorem dX11_best_15 : decode cX11_best 15 = .ok (.iconst 1, 1) := by decide +kernel
theorem dX11_best_16 : decode cX11_best 16 = .ok (.if_icmp .lt 9, 3) := by decide +kernel
theorem dX11_best_19 : decode cX11_best 19 = .ok (.iload_n 2, 1) := by decide +kernel
theorem dX11_best_20 : decode cX11_best 20 = .ok (.bipush 9, 2) := by decide +kernel
theorem dX11_best_22 : decode cX11_best 22 = .ok (.if_icmp .le 5, 3) := by decide +kernel
theorem dX11_best_25 : decode cX11_best 25 = .ok (.iconst (-1), 1) := by decide +kernel
theorem dX11_best_26 : decode cX11_best 26 = .ok (.ireturn, 1) := by decide +kernel
theorem dX11_best_27 : decode cX11_best 27 = .ok (.aload_n 0, 1) := by decide +kernel
theorem dX11_best_28 : decode cX11_best 28 = .ok (.getfield 12, 3) := by decide +kernel
theorem dX11_best_31 : decode cX11_best 31 = .ok (.aload_n 0, 1) := by decide +kernel
theorem dX11_best_32 : decode cX11_best 32 = .ok (.getfield 12, 3) := by decide +kernel
theorem dX11_best_35 : decode cX11_best 35 = .ok (.getfield 69, 3) := by decide +kernel
theorem dX11_best_38 : decode cX11_best 38 = .ok (.getfield 102, 3) := by decide +kernel
theorem dX11_best_41 : decode cX11_best 41 = .ok (.invokevirtual 252, 3) := by decide +kernel
theorem dX11_best_44 : decode cX11_best 44 = .ok (.istore_n 3, 1) := by decide +kernel
theorem dX11_best_45 : decode cX11_best 45 = .ok (.aload_n 0, 1) := by decide +kernel
theorem dX11_best_46 : decode cX11_best 46 = .ok (.getfield 12, 3) := by decide +kernel
theorem dX11_best_49 : decode cX11_best 49 = .ok (.iload_n 1, 1) := by decide +kernel
theorem dX11_best_50 : decode cX11_best 50 = .ok (.iload_n 2, 1) := by decide +kernel
theorem dX11_best_51 : decode cX11_best 51 = .ok (.invokevirtual 335, 3) := by decide +kernel
theorem dX11_best_54 : decode cX11_best 54 = .ok (.iconst (-1), 1) := by decide +kernel
theorem dX11_best_55 : decode cX11_best 55 = .ok (.istore 4, 2) := by decide +kernel
theorem dX11_best_57 : decode cX11_best 57 = .ok (.iconst 0, 1) := by decide +kernel
theorem dX11_best_58 : decode cX11_best 58 = .ok (.istore 5, 2) := by decide +kernel
theorem dX11_best_60 : decode cX11_best 60 = .ok (.iload 5, 2) := by decide +kernel
theorem dX11_best_62 : decode cX11_best 62 = .ok (.aload_n 0, 1) := by decide +kernel
theorem dX11_best_63 : decode cX11_best 63 = .ok (.getfield 12, 3) := by decide +kernel
theorem dX11_best_66 : decode cX11_best 66 = .ok (.getfield 79, 3) := by decide +kernel
theorem dX11_best_69 : decode cX11_best 69 = .ok (.getfield 89, 3) := by decide +kernel
theorem dX11_best_72 : decode cX11_best 72 = .ok (.if_icmp .ge 71, 3) := by decide +kernel
theorem dX11_best_75 : decode cX11_best 75 = .ok (.iload 5, 2) := by decide +kernel
theorem dX11_best_77 : decode cX11_best 77 = .ok (.bipush 10, 2) := by decide +kernel
theorem dX11_best_79 : decode cX11_best 79 = .ok (.if_icmp .ge 64, 3) := by decide +kernel
theorem dX11_best_82 : decode cX11_best 82 = .ok (.iload 4, 2) := by decide +kernel
theorem dX11_best_84 : decode cX11_best 84 = .ok (.iconst (-1), 1) := by decide +kernel
theorem dX11_best_85 : decode cX11_best 85 = .ok (.if_icmp .eq 26, 3) := by decide +kernel
theorem dX11_best_88 : decode cX11_best 88 = .ok (.aload_n 0, 1) := by decide +kernel
theorem dX11_best_89 : decode cX11_best 89 = .ok (.getfield 12, 3) := by decide +kernel
theorem dX11_best_92 : decode cX11_best 92 = .ok (.getfield 338, 3) := by decide +kernel
theorem dX11_best_95 : decode cX11_best 95 = .ok (.iload 5, 2) := by decide +kernel
theorem dX11_best_97 : decode cX11_best 97 = .ok (.iaload, 1) := by decide +kernel
theorem dX11_best_98 : decode cX11_best 98 = .ok (.aload_n 0, 1) := by decide +kernel
theorem dX11_best_99 : decode cX11_best 99 = .ok (.getfield 12, 3) := by decide +kernel
theorem dX11_best_102 : decode cX11_best 102 = .ok (.getfield 338, 3) := by decide +kernel
theorem dX11_best_105 : decode cX11_best 105 = .ok (.iload 4, 2) := by decide +kernel
theorem dX11_best_107 : decode cX11_best 107 = .ok (.iaload, 1) := by decide +kernel
theorem dX11_best_108 : decode cX11_best 108 = .ok (.if_icmp .le 7, 3) := by decide +kernel
theorem dX11_best_111 : decode cX11_best 111 = .ok (.iconst 1, 1) := by decide +kernel
theorem dX11_best_112 : decode cX11_best 112 = .ok (.goto 4, 3) := by decide +kernel
theorem dX11_best_115 : decode cX11_best 115 = .ok (.iconst 0, 1) := by decide +kernel
theorem dX11_best_116 : decode cX11_best 116 = .ok (.istore 6, 2) := by decide +kernel
theorem dX11_best_118 : decode cX11_best 118 = .ok (.iload_n 3, 1) := by decide +kernel
theorem dX11_best_119 : decode cX11_best 119 = .ok (.iload 5, 2) := by decide +kernel
theorem dX11_best_121 : decode cX11_best 121 = .ok (.ishr, 1) := by decide +kernel
theorem dX11_best_122 : decode cX11_best 122 = .ok (.iconst 1, 1) := by decide +kernel
theorem dX11_best_123 : decode cX11_best 123 = .ok (.iand, 1) := by decide +kernel
theorem dX11_best_124 : decode cX11_best 124 = .ok (.iconst 1, 1) := by decide +kernel
theorem dX11_best_125 : decode cX11_best 125 = .ok (.if_icmp .ne 12, 3) := by decide +kernel
theorem dX11_best_128 : decode cX11_best 128 = .ok (.iload 6, 2) := by decide +kernel
theorem dX11_best_130 : decode cX11_best 130 = .ok (.ifCond .eq 7, 3) := by decide +kernel
theorem dX11_best_133 : decode cX11_best 133 = .ok (.iload 5, 2) := by decide +kernel
theorem dX11_best_135 : decode cX11_best 135 = .ok (.istore 4, 2) := by decide +kernel
theorem dX11_best_137 : decode cX11_best 137 = .ok (.iinc 5 1, 3) := by decide +kernel
theorem dX11_best_140 : decode cX11_best 140 = .ok (.goto (-80), 3) := by decide +kernel
theorem dX11_best_143 : decode cX11_best 143 = .ok (.iload 4, 2) := by decide +kernel
theorem dX11_best_145 : decode cX11_best 145 = .ok (.ireturn, 1) := by decide +kernel
theorem dX11_book_0 : decode cX11_book 0 = .ok (.iload_n 1, 1) := by decide +kernel
theorem dX11_book_1 : decode cX11_book 1 = .ok (.ifCond .lt 34, 3) := by decide +kernel
theorem dX11_book_4 : decode cX11_book 4 = .ok (.iload_n 1, 1) := by decide +kernel
theorem dX11_book_5 : decode cX11_book 5 = .ok (.aload_n 0, 1) := by decide +kernel
theorem dX11_book_6 : decode cX11_book 6 = .ok (.getfield 12, 3) := by decide +kernel
theorem dX11_book_9 : decode cX11_book 9 = .ok (.getfield 69, 3) := by decide +kernel
theorem dX11_book_12 : decode cX11_book 12 = .ok (.getfield 297, 3) := by decide +kernel
theorem dX11_book_15 : decode cX11_book 15 = .ok (.if_icmp .ge 20, 3) := by decide +kernel
theorem dX11_book_18 : decode cX11_book 18 = .ok (.iload_n 1, 1) := by decide +kernel
theorem dX11_book_19 : decode cX11_book 19 = .ok (.sipush 150, 3) := by decide +kernel
theorem dX11_book_22 : decode cX11_book 22 = .ok (.if_icmp .ge 13, 3) := by decide +kernel
theorem dX11_book_25 : decode cX11_book 25 = .ok (.iload_n 2, 1) := by decide +kernel
theorem dX11_book_26 : decode cX11_book 26 = .ok (.ifCond .lt 9, 3) := by decide +kernel
theorem dX11_book_29 : decode cX11_book 29 = .ok (.iload_n 2, 1) := by decide +kernel
theorem dX11_book_30 : decode cX11_book 30 = .ok (.bipush 6, 2) := by decide +kernel
theorem dX11_book_32 : decode cX11_book 32 = .ok (.if_icmp .lt 5, 3) := by decide +kernel
theorem dX11_book_35 : decode cX11_book 35 = .ok (.iconst (-1), 1) := by decide +kernel
theorem dX11_book_36 : decode cX11_book 36 = .ok (.ireturn, 1) := by decide +kernel
theorem dX11_book_37 : decode cX11_book 37 = .ok (.aload_n 0, 1) := by decide +kernel
theorem dX11_book_38 : decode cX11_book 38 = .ok (.getfield 12, 3) := by decide +kernel
theorem dX11_book_41 : decode cX11_book 41 = .ok (.getfield 298, 3) := by decide +kernel
theorem dX11_book_44 : decode cX11_book 44 = .ok (.iload_n 1, 1) := by decide +kernel
theorem dX11_book_45 : decode cX11_book 45 = .ok (.bipush 6, 2) := by decide +kernel
theorem dX11_book_47 : decode cX11_book 47 = .ok (.imul, 1) := by decide +kernel
theorem dX11_book_48 : decode cX11_book 48 = .ok (.iload_n 2, 1) := by decide +kernel
theorem dX11_book_49 : decode cX11_book 49 = .ok (.iadd, 1) := by decide +kernel
theorem dX11_book_50 : decode cX11_book 50 = .ok (.iaload, 1) := by decide +kernel
theorem dX11_book_51 : decode cX11_book 51 = .ok (.ireturn, 1) := by decide +kernel
theorem dX11_clue_0 : decode cX11_clue 0 = .ok (.aload_n 0, 1) := by decide +kernel
theorem dX11_clue_1 : decode cX11_clue 1 = .ok (.getfield 12, 3) := by decide +kernel
theorem dX11_clue_4 : decode cX11_clue 4 = .ok (.getfield 341, 3) := by decide +kernel
theorem dX11_clue_7 : decode cX11_clue 7 = .ok (.astore_n 3, 1) := by decide +kernel
theorem dX11_clue_8 : decode cX11_clue 8 = .ok (.iload_n 1, 1) := by decide +kernel
theorem dX11_clue_9 : decode cX11_clue 9 = .ok (.iconst (-1), 1) := by decide +kernel
theorem dX11_clue_10 : decode cX11_clue 10 = .ok (.if_icmp .ne 10, 3) := by decide +kernel
theorem dX11_clue_13 : decode cX11_clue 13 = .ok (.aload_n 3, 1) := by decide +kernel
theorem dX11_clue_14 : decode cX11_clue 14 = .ok (.iconst 0, 1) := by decide +kernel
theorem dX11_clue_15 : decode cX11_clue 15 = .ok (.putfield 345, 3) := by decide +kernel
theorem dX11_clue_18 : decode cX11_clue 18 = .ok (.iconst 0, 1) := by decide +kernel
theorem dX11_clue_19 : decode cX11_clue 19 = .ok (.ireturn, 1) := by decide +kernel
theorem dX11_clue_20 : decode cX11_clue 20 = .ok (.iload_n 2, 1) := by decide +kernel
theorem dX11_clue_21 : decode cX11_clue 21 = .ok (.ifCond .eq 24, 3) := by decide +kernel
theorem dX11_clue_24 : decode cX11_clue 24 = .ok (.iload_n 2, 1) := by decide +kernel
theorem dX11_clue_25 : decode cX11_clue 25 = .ok (.aload_n 0, 1) := by decide +kernel
theorem dX11_clue_26 : decode cX11_clue 26 = .ok (.getfield 12, 3) := by decide +kernel
theorem dX11_clue_29 : decode cX11_clue 29 = .ok (.getfield 79, 3) := by decide +kernel
theorem dX11_clue_32 : decode cX11_clue 32 = .ok (.invokevirtual 348, 3) := by decide +kernel
theorem dX11_clue_35 : decode cX11_clue 35 = .ok (.iconst (-1), 1) := by decide +kernel
theorem dX11_clue_36 : decode cX11_clue 36 = .ok (.ixor, 1) := by decide +kernel
theorem dX11_clue_37 : decode cX11_clue 37 = .ok (.iand, 1) := by decide +kernel
theorem dX11_clue_38 : decode cX11_clue 38 = .ok (.ifCond .ne 7, 3) := by decide +kernel
theorem dX11_clue_41 : decode cX11_clue 41 = .ok (.iconst 1, 1) := by decide +kernel
theorem dX11_clue_42 : decode cX11_clue 42 = .ok (.goto 4, 3) := by decide +kernel
theorem dX11_clue_45 : decode cX11_clue 45 = .ok (.iconst 0, 1) := by decide +kernel
theorem dX11_clue_46 : decode cX11_clue 46 = .ok (.istore 4, 2) := by decide +kernel
theorem dX11_clue_48 : decode cX11_clue 48 = .ok (.iload_n 1, 1) := by decide +kernel
theorem dX11_clue_49 : decode cX11_clue 49 = .ok (.ifCond .lt 23, 3) := by decide +kernel
theorem dX11_clue_52 : decode cX11_clue 52 = .ok (.iload_n 1, 1) := by decide +kernel
theorem dX11_clue_53 : decode cX11_clue 53 = .ok (.bipush 10, 2) := by decide +kernel
theorem dX11_clue_55 : decode cX11_clue 55 = .ok (.if_icmp .ge 17, 3) := by decide +kernel
theorem dX11_clue_58 : decode cX11_clue 58 = .ok (.iload 4, 2) := by decide +kernel
theorem dX11_clue_60 : decode cX11_clue 60 = .ok (.ifCond .eq 12, 3) := by decide +kernel
theorem dX11_clue_63 : decode cX11_clue 63 = .ok (.aload_n 3, 1) := by decide +kernel
theorem dX11_clue_64 : decode cX11_clue 64 = .ok (.getfield 345, 3) := by decide +kernel
theorem dX11_clue_67 : decode cX11_clue 67 = .ok (.bipush 8, 2) := by decide +kernel
theorem dX11_clue_69 : decode cX11_clue 69 = .ok (.if_icmp .lt 5, 3) := by decide +kernel
theorem dX11_clue_72 : decode cX11_clue 72 = .ok (.iconst (-1), 1) := by decide +kernel
theorem dX11_clue_73 : decode cX11_clue 73 = .ok (.ireturn, 1) := by decide +kernel
theorem dX11_clue_74 : decode cX11_clue 74 = .ok (.aload_n 3, 1) := by decide +kernel
theorem dX11_clue_75 : decode cX11_clue 75 = .ok (.getfield 351, 3) := by decide +kernel
theorem dX11_clue_78 : decode cX11_clue 78 = .ok (.aload_n 3, 1) := by decide +kernel
theorem dX11_clue_79 : decode cX11_clue 79 = .ok (.getfield 345, 3) := by decide +kernel
theorem dX11_clue_82 : decode cX11_clue 82 = .ok (.iload_n 1, 1) := by decide +kernel
theorem dX11_clue_83 : decode cX11_clue 83 = .ok (.iastore, 1) := by decide +kernel
theorem dX11_clue_84 : decode cX11_clue 84 = .ok (.aload_n 3, 1) := by decide +kernel
theorem dX11_clue_85 : decode cX11_clue 85 = .ok (.getfield 353, 3) := by decide +kernel
theorem dX11_clue_88 : decode cX11_clue 88 = .ok (.aload_n 3, 1) := by decide +kernel
theorem dX11_clue_89 : decode cX11_clue 89 = .ok (.getfield 345, 3) := by decide +kernel
theorem dX11_clue_92 : decode cX11_clue 92 = .ok (.iload_n 2, 1) := by decide +kernel
theorem dX11_clue_93 : decode cX11_clue 93 = .ok (.iastore, 1) := by decide +kernel
theorem dX11_clue_94 : decode cX11_clue 94 = .ok (.aload_n 3, 1) := by decide +kernel
theorem dX11_clue_95 : decode cX11_clue 95 = .ok (.dup, 1) := by decide +kernel
theorem dX11_clue_96 : decode cX11_clue 96 = .ok (.getfield 345, 3) := by decide +kernel
theorem dX11_clue_99 : decode cX11_clue 99 = .ok (.iconst 1, 1) := by decide +kernel
theorem dX11_clue_100 : decode cX11_clue 100 = .ok (.iadd, 1) := by decide +kernel
theorem dX11_clue_101 : decode cX11_clue 101 = .ok (.putfield 345, 3) := by decide +kernel
theorem dX11_clue_104 : decode cX11_clue 104 = .ok (.aload_n 3, 1) := by decide +kernel
theorem dX11_clue_105 : decode cX11_clue 105 = .ok (.getfield 345, 3) := by decide +kernel
theorem dX11_clue_108 : decode cX11_clue 108 = .ok (.ireturn, 1) := by decide +kernel
theorem dX11_end_0 : decode cX11_end 0 = .ok (.iload_n 1, 1) := by decide +kernel
theorem dX11_end_1 : decode cX11_end 1 = .ok (.ifCond .lt 14, 3) := by decide +kernel
theorem dX11_end_4 : decode cX11_end 4 = .ok (.iload_n 1, 1) := by decide +kernel
theorem dX11_end_5 : decode cX11_end 5 = .ok (.aload_n 0, 1) := by decide +kernel
theorem dX11_end_6 : decode cX11_end 6 = .ok (.getfield 19, 3) := by decide +kernel
theorem dX11_end_9 : decode cX11_end 9 = .ok (.getfield 126, 3) := by decide +kernel
theorem dX11_end_12 : decode cX11_end 12 = .ok (.if_icmp .le 5, 3) := by decide +kernel
theorem dX11_end_15 : decode cX11_end 15 = .ok (.iconst 0, 1) := by decide +kernel
theorem dX11_end_16 : decode cX11_end 16 = .ok (.ireturn, 1) := by decide +kernel
theorem dX11_end_17 : decode cX11_end 17 = .ok (.aload_n 0, 1) := by decide +kernel
theorem dX11_end_18 : decode cX11_end 18 = .ok (.getfield 19, 3) := by decide +kernel
theorem dX11_end_21 : decode cX11_end 21 = .ok (.iload_n 1, 1) := by decide +kernel
theorem dX11_end_22 : decode cX11_end 22 = .ok (.putfield 126, 3) := by decide +kernel
theorem dX11_end_25 : decode cX11_end 25 = .ok (.iconst 1, 1) := by decide +kernel
theorem dX11_end_26 : decode cX11_end 26 = .ok (.ireturn, 1) := by decide +kernel
theorem dX11_far_0 : decode cX11_far 0 = .ok (.aload_n 0, 1) := by decide +kernel
theorem dX11_far_1 : decode cX11_far 1 = .ok (.getfield 12, 3) := by decide +kernel
theorem dX11_far_4 : decode cX11_far 4 = .ok (.getfield 79, 3) := by decide +kernel
theorem dX11_far_7 : decode cX11_far 7 = .ok (.iload_n 1, 1) := by decide +kernel
theorem dX11_far_8 : decode cX11_far 8 = .ok (.invokevirtual 111, 3) := by decide +kernel
theorem dX11_far_11 : decode cX11_far 11 = .ok (.ifCond .eq 17, 3) := by decide +kernel
theorem dX11_far_14 : decode cX11_far 14 = .ok (.aload_n 0, 1) := by decide +kernel
theorem dX11_far_15 : decode cX11_far 15 = .ok (.getfield 12, 3) := by decide +kernel
theorem dX11_far_18 : decode cX11_far 18 = .ok (.getfield 79, 3) := by decide +kernel
theorem dX11_far_21 : decode cX11_far 21 = .ok (.iload_n 2, 1) := by decide +kernel
theorem dX11_far_22 : decode cX11_far 22 = .ok (.invokevirtual 111, 3) := by decide +kernel
theorem dX11_far_25 : decode cX11_far 25 = .ok (.ifCond .ne 5, 3) := by decide +kernel
theorem dX11_far_28 : decode cX11_far 28 = .ok (.iconst (-1), 1) := by decide +kernel
theorem dX11_far_29 : decode cX11_far 29 = .ok (.ireturn, 1) := by decide +kernel
theorem dX11_far_30 : decode cX11_far 30 = .ok (.aload_n 0, 1) := by decide +kernel
theorem dX11_far_31 : decode cX11_far 31 = .ok (.getfield 12, 3) := by decide +kernel
theorem dX11_far_34 : decode cX11_far 34 = .ok (.getfield 165, 3) := by decide +kernel
theorem dX11_far_37 : decode cX11_far 37 = .ok (.iload_n 1, 1) := by decide +kernel
theorem dX11_far_38 : decode cX11_far 38 = .ok (.iload_n 2, 1) := by decide +kernel
theorem dX11_far_39 : decode cX11_far 39 = .ok (.aload_n 0, 1) := by decide +kernel
theorem dX11_far_40 : decode cX11_far 40 = .ok (.getfield 12, 3) := by decide +kernel
theorem dX11_far_43 : decode cX11_far 43 = .ok (.getfield 69, 3) := by decide +kernel
theorem dX11_far_46 : decode cX11_far 46 = .ok (.getfield 265, 3) := by decide +kernel
theorem dX11_far_49 : decode cX11_far 49 = .ok (.invokevirtual 268, 3) := by decide +kernel
theorem dX11_far_52 : decode cX11_far 52 = .ok (.ireturn, 1) := by decide +kernel
theorem dX11_fault_0 : decode cX11_fault 0 = .ok (.iload_n 1, 1) := by decide +kernel
theorem dX11_fault_1 : decode cX11_fault 1 = .ok (.ifCond .ne 11, 3) := by decide +kernel
theorem dX11_fault_4 : decode cX11_fault 4 = .ok (.aload_n 0, 1) := by decide +kernel
theorem dX11_fault_5 : decode cX11_fault 5 = .ok (.getfield 19, 3) := by decide +kernel
theorem dX11_fault_8 : decode cX11_fault 8 = .ok (.getfield 145, 3) := by decide +kernel
theorem dX11_fault_11 : decode cX11_fault 11 = .ok (.ireturn, 1) := by decide +kernel
theorem dX11_fault_12 : decode cX11_fault 12 = .ok (.iload_n 1, 1) := by decide +kernel
theorem dX11_fault_13 : decode cX11_fault 13 = .ok (.iconst 1, 1) := by decide +kernel
theorem dX11_fault_14 : decode cX11_fault 14 = .ok (.if_icmp .ne 13, 3) := by decide +kernel
theorem dX11_fault_17 : decode cX11_fault 17 = .ok (.aload_n 0, 1) := by decide +kernel
theorem dX11_fault_18 : decode cX11_fault 18 = .ok (.getfield 19, 3) := by decide +kernel
theorem dX11_fault_21 : decode cX11_fault 21 = .ok (.getfield 192, 3) := by decide +kernel
theorem dX11_fault_24 : decode cX11_fault 24 = .ok (.goto 4, 3) := by decide +kernel
theorem dX11_fault_27 : decode cX11_fault 27 = .ok (.iconst (-1), 1) := by decide +kernel
theorem dX11_fault_28 : decode cX11_fault 28 = .ok (.ireturn, 1) := by decide +kernel
theorem dX11_feed_0 : decode cX11_feed 0 = .ok (.aload_n 0, 1) := by decide +kernel
theorem dX11_feed_1 : decode cX11_feed 1 = .ok (.getfield 19, 3) := by decide +kernel
theorem dX11_feed_4 : decode cX11_feed 4 = .ok (.getfield 126, 3) := by decide +kernel
theorem dX11_feed_7 : decode cX11_feed 7 = .ok (.bipush 20, 2) := by decide +kernel
theorem dX11_feed_9 : decode cX11_feed 9 = .ok (.iadd, 1) := by decide +kernel
theorem dX11_feed_10 : decode cX11_feed 10 = .ok (.sipush 400, 3) := by decide +kernel
theorem dX11_feed_13 : decode cX11_feed 13 = .ok (.if_icmp .le 5, 3) := by decide +kernel
theorem dX11_feed_16 : decode cX11_feed 16 = .ok (.iconst (-1), 1) := by decide +kernel
theorem dX11_feed_17 : decode cX11_feed 17 = .ok (.ireturn, 1) := by decide +kernel
theorem dX11_feed_18 : decode cX11_feed 18 = .ok (.aload_n 0, 1) := by decide +kernel
theorem dX11_feed_19 : decode cX11_feed 19 = .ok (.getfield 19, 3) := by decide +kernel
theorem dX11_feed_22 : decode cX11_feed 22 = .ok (.iload_n 1, 1) := by decide +kernel
theorem dX11_feed_23 : decode cX11_feed 23 = .ok (.invokevirtual 129, 3) := by decide +kernel
theorem dX11_feed_26 : decode cX11_feed 26 = .ok (.aload_n 0, 1) := by decide +kernel
theorem dX11_feed_27 : decode cX11_feed 27 = .ok (.getfield 19, 3) := by decide +kernel
theorem dX11_feed_30 : decode cX11_feed 30 = .ok (.iload_n 2, 1) := by decide +kernel
theorem dX11_feed_31 : decode cX11_feed 31 = .ok (.invokevirtual 129, 3) := by decide +kernel
theorem dX11_feed_34 : decode cX11_feed 34 = .ok (.aload_n 0, 1) := by decide +kernel
theorem dX11_feed_35 : decode cX11_feed 35 = .ok (.getfield 19, 3) := by decide +kernel
theorem dX11_feed_38 : decode cX11_feed 38 = .ok (.iload_n 3, 1) := by decide +kernel
theorem dX11_feed_39 : decode cX11_feed 39 = .ok (.invokevirtual 129, 3) := by decide +kernel
theorem dX11_feed_42 : decode cX11_feed 42 = .ok (.aload_n 0, 1) := by decide +kernel
theorem dX11_feed_43 : decode cX11_feed 43 = .ok (.getfield 19, 3) := by decide +kernel
theorem dX11_feed_46 : decode cX11_feed 46 = .ok (.iload 4, 2) := by decide +kernel
theorem dX11_feed_48 : decode cX11_feed 48 = .ok (.invokevirtual 129, 3) := by decide +kernel
theorem dX11_feed_51 : decode cX11_feed 51 = .ok (.aload_n 0, 1) := by decide +kernel
theorem dX11_feed_52 : decode cX11_feed 52 = .ok (.getfield 19, 3) := by decide +kernel
theorem dX11_feed_55 : decode cX11_feed 55 = .ok (.iload 5, 2) := by decide +kernel
theorem dX11_feed_57 : decode cX11_feed 57 = .ok (.invokevirtual 129, 3) := by decide +kernel
theorem dX11_feed_60 : decode cX11_feed 60 = .ok (.aload_n 0, 1) := by decide +kernel
theorem dX11_feed_61 : decode cX11_feed 61 = .ok (.getfield 19, 3) := by decide +kernel
theorem dX11_feed_64 : decode cX11_feed 64 = .ok (.getfield 126, 3) := by decide +kernel
theorem dX11_feed_67 : decode cX11_feed 67 = .ok (.ireturn, 1) := by decide +kernel
theorem dX11_forgetNights_0 : decode cX11_forgetNights 0 = .ok (.aload_n 0, 1) := by decide +kernel
theorem dX11_forgetNights_1 : decode cX11_forgetNights 1 = .ok (.iconst 0, 1) := by decide +kernel
theorem dX11_forgetNights_2 : decode cX11_forgetNights 2 = .ok (.putfield 211, 3) := by decide +kernel
theorem dX11_forgetNights_5 : decode cX11_forgetNights 5 = .ok (.aload_n 0, 1) := by decide +kernel
theorem dX11_forgetNights_6 : decode cX11_forgetNights 6 = .ok (.iconst 0, 1) := by decide +kernel
theorem dX11_forgetNights_7 : decode cX11_forgetNights 7 = .ok (.putfield 208, 3) := by decide +kernel
theorem dX11_forgetNights_10 : decode cX11_forgetNights 10 = .ok (.aload_n 0, 1) := by decide +kernel
theorem dX11_forgetNights_11 : decode cX11_forgetNights 11 = .ok (.invokevirtual 205, 3) := by decide +kernel
theorem dX11_forgetNights_14 : decode cX11_forgetNights 14 = .ok (.return_, 1) := by decide +kernel
theorem dX11_forgetPlan_0 : decode cX11_forgetPlan 0 = .ok (.aload_n 0, 1) := by decide +kernel
theorem dX11_forgetPlan_1 : decode cX11_forgetPlan 1 = .ok (.getfield 217, 3) := by decide +kernel
theorem dX11_forgetPlan_4 : decode cX11_forgetPlan 4 = .ok (.ifnull 11, 3) := by decide +kernel
theorem dX11_forgetPlan_7 : decode cX11_forgetPlan 7 = .ok (.aload_n 0, 1) := by decide +kernel
theorem dX11_forgetPlan_8 : decode cX11_forgetPlan 8 = .ok (.getfield 217, 3) := by decide +kernel
theorem dX11_forgetPlan_11 : decode cX11_forgetPlan 11 = .ok (.iconst 0, 1) := by decide +kernel
theorem dX11_forgetPlan_12 : decode cX11_forgetPlan 12 = .ok (.putfield 221, 3) := by decide +kernel
theorem dX11_forgetPlan_15 : decode cX11_forgetPlan 15 = .ok (.return_, 1) := by decide +kernel
theorem dX11_friends_0 : decode cX11_friends 0 = .ok (.aload_n 0, 1) := by decide +kernel
theorem dX11_friends_1 : decode cX11_friends 1 = .ok (.getfield 12, 3) := by decide +kernel
theorem dX11_friends_4 : decode cX11_friends 4 = .ok (.getfield 79, 3) := by decide +kernel
theorem dX11_friends_7 : decode cX11_friends 7 = .ok (.astore 4, 2) := by decide +kernel
theorem dX11_friends_9 : decode cX11_friends 9 = .ok (.aload 4, 2) := by decide +kernel
theorem dX11_friends_11 : decode cX11_friends 11 = .ok (.iload_n 1, 1) := by decide +kernel
theorem dX11_friends_12 : decode cX11_friends 12 = .ok (.invokevirtual 111, 3) := by decide +kernel
theorem dX11_friends_15 : decode cX11_friends 15 = .ok (.ifCond .eq 17, 3) := by decide +kernel
theorem dX11_friends_18 : decode cX11_friends 18 = .ok (.aload 4, 2) := by decide +kernel
theorem dX11_friends_20 : decode cX11_friends 20 = .ok (.iload_n 2, 1) := by decide +kernel
theorem dX11_friends_21 : decode cX11_friends 21 = .ok (.invokevirtual 111, 3) := by decide +kernel
theorem dX11_friends_24 : decode cX11_friends 24 = .ok (.ifCond .eq 8, 3) := by decide +kernel
theorem dX11_friends_27 : decode cX11_friends 27 = .ok (.iload_n 1, 1) := by decide +kernel
theorem dX11_friends_28 : decode cX11_friends 28 = .ok (.iload_n 2, 1) := by decide +kernel
theorem dX11_friends_29 : decode cX11_friends 29 = .ok (.if_icmp .ne 5, 3) := by decide +kernel
theorem dX11_friends_32 : decode cX11_friends 32 = .ok (.iconst 0, 1) := by decide +kernel
theorem dX11_friends_33 : decode cX11_friends 33 = .ok (.ireturn, 1) := by decide +kernel
theorem dX11_friends_34 : decode cX11_friends 34 = .ok (.aload 4, 2) := by decide +kernel
theorem dX11_friends_36 : decode cX11_friends 36 = .ok (.iload_n 1, 1) := by decide +kernel
theorem dX11_friends_37 : decode cX11_friends 37 = .ok (.iload_n 2, 1) := by decide +kernel
theorem dX11_friends_38 : decode cX11_friends 38 = .ok (.iload_n 3, 1) := by decide +kernel
theorem dX11_friends_39 : decode cX11_friends 39 = .ok (.invokevirtual 122, 3) := by decide +kernel
theorem dX11_friends_42 : decode cX11_friends 42 = .ok (.aload 4, 2) := by decide +kernel
theorem dX11_friends_44 : decode cX11_friends 44 = .ok (.iload_n 2, 1) := by decide +kernel
theorem dX11_friends_45 : decode cX11_friends 45 = .ok (.iload_n 1, 1) := by decide +kernel
theorem dX11_friends_46 : decode cX11_friends 46 = .ok (.iload_n 3, 1) := by decide +kernel
theorem dX11_friends_47 : decode cX11_friends 47 = .ok (.invokevirtual 122, 3) := by decide +kernel
theorem dX11_friends_50 : decode cX11_friends 50 = .ok (.aload_n 0, 1) := by decide +kernel
theorem dX11_friends_51 : decode cX11_friends 51 = .ok (.invokevirtual 76, 3) := by decide +kernel
theorem dX11_friends_54 : decode cX11_friends 54 = .ok (.iconst 1, 1) := by decide +kernel
theorem dX11_friends_55 : decode cX11_friends 55 = .ok (.ireturn, 1) := by decide +kernel
theorem dX11_house_0 : decode cX11_house 0 = .ok (.aload_n 0, 1) := by decide +kernel
theorem dX11_house_1 : decode cX11_house 1 = .ok (.getfield 12, 3) := by decide +kernel
theorem dX11_house_4 : decode cX11_house 4 = .ok (.getfield 79, 3) := by decide +kernel
theorem dX11_house_7 : decode cX11_house 7 = .ok (.astore 4, 2) := by decide +kernel
theorem dX11_house_9 : decode cX11_house 9 = .ok (.iload_n 2, 1) := by decide +kernel
theorem dX11_house_10 : decode cX11_house 10 = .ok (.iconst 1, 1) := by decide +kernel
theorem dX11_house_11 : decode cX11_house 11 = .ok (.if_icmp .lt 29, 3) := by decide +kernel
theorem dX11_house_14 : decode cX11_house 14 = .ok (.iload_n 2, 1) := by decide +kernel
theorem dX11_house_15 : decode cX11_house 15 = .ok (.bipush 20, 2) := by decide +kernel
theorem dX11_house_17 : decode cX11_house 17 = .ok (.if_icmp .gt 23, 3) := by decide +kernel
theorem dX11_house_20 : decode cX11_house 20 = .ok (.iload_n 3, 1) := by decide +kernel
theorem dX11_house_21 : decode cX11_house 21 = .ok (.ifCond .lt 19, 3) := by decide +kernel
theorem dX11_house_24 : decode cX11_house 24 = .ok (.iload_n 3, 1) := by decide +kernel
theorem dX11_house_25 : decode cX11_house 25 = .ok (.sipush 999, 3) := by decide +kernel
theorem dX11_house_28 : decode cX11_house 28 = .ok (.if_icmp .gt 12, 3) := by decide +kernel
theorem dX11_house_31 : decode cX11_house 31 = .ok (.aload 4, 2) := by decide +kernel
theorem dX11_house_33 : decode cX11_house 33 = .ok (.iload_n 1, 1) := by decide +kernel
theorem dX11_house_34 : decode cX11_house 34 = .ok (.invokevirtual 83, 3) := by decide +kernel
theorem dX11_house_37 : decode cX11_house 37 = .ok (.ifCond .ne 5, 3) := by decide +kernel
theorem dX11_house_40 : decode cX11_house 40 = .ok (.iconst (-1), 1) := by decide +kernel
theorem dX11_house_41 : decode cX11_house 41 = .ok (.ireturn, 1) := by decide +kernel
theorem dX11_house_42 : decode cX11_house 42 = .ok (.aload 4, 2) := by decide +kernel
theorem dX11_house_44 : decode cX11_house 44 = .ok (.getfield 89, 3) := by decide +kernel
theorem dX11_house_47 : decode cX11_house 47 = .ok (.bipush 10, 2) := by decide +kernel
theorem dX11_house_49 : decode cX11_house 49 = .ok (.if_icmp .lt 5, 3) := by decide +kernel
theorem dX11_house_52 : decode cX11_house 52 = .ok (.iconst (-1), 1) := by decide +kernel
theorem dX11_house_53 : decode cX11_house 53 = .ok (.ireturn, 1) := by decide +kernel
theorem dX11_house_54 : decode cX11_house 54 = .ok (.aload 4, 2) := by decide +kernel
theorem dX11_house_56 : decode cX11_house 56 = .ok (.getfield 89, 3) := by decide +kernel
theorem dX11_house_59 : decode cX11_house 59 = .ok (.istore 5, 2) := by decide +kernel
theorem dX11_house_61 : decode cX11_house 61 = .ok (.aload 4, 2) := by decide +kernel
theorem dX11_house_63 : decode cX11_house 63 = .ok (.getfield 92, 3) := by decide +kernel
theorem dX11_house_66 : decode cX11_house 66 = .ok (.iload 5, 2) := by decide +kernel
theorem dX11_house_68 : decode cX11_house 68 = .ok (.iload_n 1, 1) := by decide +kernel
theorem dX11_house_69 : decode cX11_house 69 = .ok (.iastore, 1) := by decide +kernel
theorem dX11_house_70 : decode cX11_house 70 = .ok (.aload 4, 2) := by decide +kernel
theorem dX11_house_72 : decode cX11_house 72 = .ok (.getfield 96, 3) := by decide +kernel
theorem dX11_house_75 : decode cX11_house 75 = .ok (.iload 5, 2) := by decide +kernel
theorem dX11_house_77 : decode cX11_house 77 = .ok (.iload_n 2, 1) := by decide +kernel
theorem dX11_house_78 : decode cX11_house 78 = .ok (.iastore, 1) := by decide +kernel
theorem dX11_house_79 : decode cX11_house 79 = .ok (.aload_n 0, 1) := by decide +kernel
theorem dX11_house_80 : decode cX11_house 80 = .ok (.getfield 12, 3) := by decide +kernel
theorem dX11_house_83 : decode cX11_house 83 = .ok (.getfield 69, 3) := by decide +kernel
theorem dX11_house_86 : decode cX11_house 86 = .ok (.getfield 99, 3) := by decide +kernel
theorem dX11_house_89 : decode cX11_house 89 = .ok (.iload 5, 2) := by decide +kernel
theorem dX11_house_91 : decode cX11_house 91 = .ok (.iload_n 3, 1) := by decide +kernel
theorem dX11_house_92 : decode cX11_house 92 = .ok (.iastore, 1) := by decide +kernel
theorem dX11_house_93 : decode cX11_house 93 = .ok (.aload 4, 2) := by decide +kernel
theorem dX11_house_95 : decode cX11_house 95 = .ok (.iload 5, 2) := by decide +kernel
theorem dX11_house_97 : decode cX11_house 97 = .ok (.iconst 1, 1) := by decide +kernel
theorem dX11_house_98 : decode cX11_house 98 = .ok (.iadd, 1) := by decide +kernel
theorem dX11_house_99 : decode cX11_house 99 = .ok (.putfield 89, 3) := by decide +kernel
theorem dX11_house_102 : decode cX11_house 102 = .ok (.iload 5, 2) := by decide +kernel
theorem dX11_house_104 : decode cX11_house 104 = .ok (.ifCond .ne 14, 3) := by decide +kernel
theorem dX11_house_107 : decode cX11_house 107 = .ok (.aload_n 0, 1) := by decide +kernel
theorem dX11_house_108 : decode cX11_house 108 = .ok (.getfield 12, 3) := by decide +kernel
theorem dX11_house_111 : decode cX11_house 111 = .ok (.getfield 69, 3) := by decide +kernel
theorem dX11_house_114 : decode cX11_house 114 = .ok (.iconst 0, 1) := by decide +kernel
theorem dX11_house_115 : decode cX11_house 115 = .ok (.putfield 102, 3) := by decide +kernel
theorem dX11_house_118 : decode cX11_house 118 = .ok (.aload_n 0, 1) := by decide +kernel
theorem dX11_house_119 : decode cX11_house 119 = .ok (.invokevirtual 76, 3) := by decide +kernel
theorem dX11_house_122 : decode cX11_house 122 = .ok (.iload 5, 2) := by decide +kernel
theorem dX11_house_124 : decode cX11_house 124 = .ok (.ireturn, 1) := by decide +kernel
theorem dX11_image_0 : decode cX11_image 0 = .ok (.iload_n 1, 1) := by decide +kernel
theorem dX11_image_1 : decode cX11_image 1 = .ok (.ifCond .eq 34, 3) := by decide +kernel
theorem dX11_image_4 : decode cX11_image 4 = .ok (.aload_n 0, 1) := by decide +kernel
theorem dX11_image_5 : decode cX11_image 5 = .ok (.getfield 370, 3) := by decide +kernel
theorem dX11_image_8 : decode cX11_image 8 = .ok (.ifnonnull 14, 3) := by decide +kernel
theorem dX11_image_22 : decode cX11_image 22 = .ok (.aload_n 0, 1) := by decide +kernel
theorem dX11_image_23 : decode cX11_image 23 = .ok (.getfield 370, 3) := by decide +kernel
theorem dX11_image_26 : decode cX11_image 26 = .ok (.aload_n 0, 1) := by decide +kernel
theorem dX11_image_27 : decode cX11_image 27 = .ok (.getfield 12, 3) := by decide +kernel
theorem dX11_image_30 : decode cX11_image 30 = .ok (.invokevirtual 373, 3) := by decide +kernel
theorem dX11_image_33 : decode cX11_image 33 = .ok (.iconst 1, 1) := by decide +kernel
theorem dX11_image_34 : decode cX11_image 34 = .ok (.ireturn, 1) := by decide +kernel
theorem dX11_image_35 : decode cX11_image 35 = .ok (.aload_n 0, 1) := by decide +kernel
theorem dX11_image_36 : decode cX11_image 36 = .ok (.getfield 370, 3) := by decide +kernel
theorem dX11_image_39 : decode cX11_image 39 = .ok (.ifnonnull 5, 3) := by decide +kernel
theorem dX11_image_42 : decode cX11_image 42 = .ok (.iconst 0, 1) := by decide +kernel
theorem dX11_image_43 : decode cX11_image 43 = .ok (.ireturn, 1) := by decide +kernel
theorem dX11_image_44 : decode cX11_image 44 = .ok (.aload_n 0, 1) := by decide +kernel
theorem dX11_image_45 : decode cX11_image 45 = .ok (.getfield 12, 3) := by decide +kernel
theorem dX11_image_48 : decode cX11_image 48 = .ok (.aload_n 0, 1) := by decide +kernel
theorem dX11_image_49 : decode cX11_image 49 = .ok (.getfield 370, 3) := by decide +kernel
theorem dX11_image_52 : decode cX11_image 52 = .ok (.invokevirtual 373, 3) := by decide +kernel
theorem dX11_image_55 : decode cX11_image 55 = .ok (.aload_n 0, 1) := by decide +kernel
theorem dX11_image_56 : decode cX11_image 56 = .ok (.invokevirtual 76, 3) := by decide +kernel
theorem dX11_image_59 : decode cX11_image 59 = .ok (.iconst 1, 1) := by decide +kernel
theorem dX11_image_60 : decode cX11_image 60 = .ok (.ireturn, 1) := by decide +kernel
theorem dX11_keepNight_0 : decode cX11_keepNight 0 = .ok (.aload_n 0, 1) := by decide +kernel
theorem dX11_keepNight_1 : decode cX11_keepNight 1 = .ok (.getfield 65, 3) := by decide +kernel
theorem dX11_keepNight_4 : decode cX11_keepNight 4 = .ok (.aload_n 0, 1) := by decide +kernel
theorem dX11_keepNight_5 : decode cX11_keepNight 5 = .ok (.getfield 208, 3) := by decide +kernel
theorem dX11_keepNight_8 : decode cX11_keepNight 8 = .ok (.aload_n 0, 1) := by decide +kernel
theorem dX11_keepNight_9 : decode cX11_keepNight 9 = .ok (.getfield 211, 3) := by decide +kernel
theorem dX11_keepNight_12 : decode cX11_keepNight 12 = .ok (.iadd, 1) := by decide +kernel
theorem dX11_keepNight_13 : decode cX11_keepNight 13 = .ok (.bipush 6, 2) := by decide +kernel
theorem dX11_keepNight_15 : decode cX11_keepNight 15 = .ok (.irem, 1) := by decide +kernel
theorem dX11_keepNight_16 : decode cX11_keepNight 16 = .ok (.aaload, 1) := by decide +kernel
theorem dX11_keepNight_17 : decode cX11_keepNight 17 = .ok (.astore_n 1, 1) := by decide +kernel
theorem dX11_keepNight_18 : decode cX11_keepNight 18 = .ok (.aload_n 1, 1) := by decide +kernel
theorem dX11_keepNight_19 : decode cX11_keepNight 19 = .ok (.ifnull 14, 3) := by decide +kernel
theorem dX11_keepNight_22 : decode cX11_keepNight 22 = .ok (.aload_n 1, 1) := by decide +kernel
theorem dX11_keepNight_23 : decode cX11_keepNight 23 = .ok (.aload_n 0, 1) := by decide +kernel
theorem dX11_keepNight_24 : decode cX11_keepNight 24 = .ok (.getfield 12, 3) := by decide +kernel
theorem dX11_keepNight_27 : decode cX11_keepNight 27 = .ok (.getfield 69, 3) := by decide +kernel
theorem dX11_keepNight_30 : decode cX11_keepNight 30 = .ok (.invokevirtual 214, 3) := by decide +kernel
theorem dX11_keepNight_33 : decode cX11_keepNight 33 = .ok (.aload_n 0, 1) := by decide +kernel
theorem dX11_keepNight_34 : decode cX11_keepNight 34 = .ok (.getfield 211, 3) := by decide +kernel
theorem dX11_keepNight_37 : decode cX11_keepNight 37 = .ok (.bipush 6, 2) := by decide +kernel
theorem dX11_keepNight_39 : decode cX11_keepNight 39 = .ok (.if_icmp .ge 16, 3) := by decide +kernel
theorem dX11_keepNight_42 : decode cX11_keepNight 42 = .ok (.aload_n 0, 1) := by decide +kernel
theorem dX11_keepNight_43 : decode cX11_keepNight 43 = .ok (.dup, 1) := by decide +kernel
theorem dX11_keepNight_44 : decode cX11_keepNight 44 = .ok (.getfield 211, 3) := by decide +kernel
theorem dX11_keepNight_47 : decode cX11_keepNight 47 = .ok (.iconst 1, 1) := by decide +kernel
theorem dX11_keepNight_48 : decode cX11_keepNight 48 = .ok (.iadd, 1) := by decide +kernel
theorem dX11_keepNight_49 : decode cX11_keepNight 49 = .ok (.putfield 211, 3) := by decide +kernel
theorem dX11_keepNight_52 : decode cX11_keepNight 52 = .ok (.goto 16, 3) := by decide +kernel
theorem dX11_keepNight_55 : decode cX11_keepNight 55 = .ok (.aload_n 0, 1) := by decide +kernel
theorem dX11_keepNight_56 : decode cX11_keepNight 56 = .ok (.aload_n 0, 1) := by decide +kernel
theorem dX11_keepNight_57 : decode cX11_keepNight 57 = .ok (.getfield 208, 3) := by decide +kernel
theorem dX11_keepNight_60 : decode cX11_keepNight 60 = .ok (.iconst 1, 1) := by decide +kernel
theorem dX11_keepNight_61 : decode cX11_keepNight 61 = .ok (.iadd, 1) := by decide +kernel
theorem dX11_keepNight_62 : decode cX11_keepNight 62 = .ok (.bipush 6, 2) := by decide +kernel
theorem dX11_keepNight_64 : decode cX11_keepNight 64 = .ok (.irem, 1) := by decide +kernel
theorem dX11_keepNight_65 : decode cX11_keepNight 65 = .ok (.putfield 208, 3) := by decide +kernel
theorem dX11_keepNight_68 : decode cX11_keepNight 68 = .ok (.return_, 1) := by decide +kernel
theorem dX11_least_0 : decode cX11_least 0 = .ok (.iconst 0, 1) := by decide +kernel
theorem dX11_least_1 : decode cX11_least 1 = .ok (.istore_n 1, 1) := by decide +kernel
theorem dX11_least_2 : decode cX11_least 2 = .ok (.iload_n 1, 1) := by decide +kernel
theorem dX11_least_3 : decode cX11_least 3 = .ok (.bipush 10, 2) := by decide +kernel
theorem dX11_least_5 : decode cX11_least 5 = .ok (.if_icmp .ge 20, 3) := by decide +kernel
theorem dX11_least_8 : decode cX11_least 8 = .ok (.iload_n 0, 1) := by decide +kernel
theorem dX11_least_9 : decode cX11_least 9 = .ok (.iload_n 1, 1) := by decide +kernel
theorem dX11_least_10 : decode cX11_least 10 = .ok (.ishr, 1) := by decide +kernel
theorem dX11_least_11 : decode cX11_least 11 = .ok (.iconst 1, 1) := by decide +kernel
theorem dX11_least_12 : decode cX11_least 12 = .ok (.iand, 1) := by decide +kernel
theorem dX11_least_13 : decode cX11_least 13 = .ok (.iconst 1, 1) := by decide +kernel
theorem dX11_least_14 : decode cX11_least 14 = .ok (.if_icmp .ne 5, 3) := by decide +kernel
theorem dX11_least_17 : decode cX11_least 17 = .ok (.iload_n 1, 1) := by decide +kernel
theorem dX11_least_18 : decode cX11_least 18 = .ok (.ireturn, 1) := by decide +kernel
theorem dX11_least_19 : decode cX11_least 19 = .ok (.iinc 1 1, 3) := by decide +kernel
theorem dX11_least_22 : decode cX11_least 22 = .ok (.goto (-20), 3) := by decide +kernel
theorem dX11_least_25 : decode cX11_least 25 = .ok (.iconst (-1), 1) := by decide +kernel
theorem dX11_least_26 : decode cX11_least 26 = .ok (.ireturn, 1) := by decide +kernel
theorem dX11_liars_0 : decode cX11_liars 0 = .ok (.iconst 0, 1) := by decide +kernel
theorem dX11_liars_1 : decode cX11_liars 1 = .ok (.istore_n 1, 1) := by decide +kernel
theorem dX11_liars_2 : decode cX11_liars 2 = .ok (.iconst 0, 1) := by decide +kernel
theorem dX11_liars_3 : decode cX11_liars 3 = .ok (.istore_n 2, 1) := by decide +kernel
theorem dX11_liars_4 : decode cX11_liars 4 = .ok (.iload_n 2, 1) := by decide +kernel
theorem dX11_liars_5 : decode cX11_liars 5 = .ok (.aload_n 0, 1) := by decide +kernel
theorem dX11_liars_6 : decode cX11_liars 6 = .ok (.getfield 12, 3) := by decide +kernel
theorem dX11_liars_9 : decode cX11_liars 9 = .ok (.getfield 79, 3) := by decide +kernel
theorem dX11_liars_12 : decode cX11_liars 12 = .ok (.getfield 89, 3) := by decide +kernel
theorem dX11_liars_15 : decode cX11_liars 15 = .ok (.if_icmp .ge 48, 3) := by decide +kernel
theorem dX11_liars_18 : decode cX11_liars 18 = .ok (.iload_n 2, 1) := by decide +kernel
theorem dX11_liars_19 : decode cX11_liars 19 = .ok (.bipush 10, 2) := by decide +kernel
theorem dX11_liars_21 : decode cX11_liars 21 = .ok (.if_icmp .ge 42, 3) := by decide +kernel
theorem dX11_liars_24 : decode cX11_liars 24 = .ok (.aload_n 0, 1) := by decide +kernel
theorem dX11_liars_25 : decode cX11_liars 25 = .ok (.getfield 12, 3) := by decide +kernel
theorem dX11_liars_28 : decode cX11_liars 28 = .ok (.getfield 79, 3) := by decide +kernel
theorem dX11_liars_31 : decode cX11_liars 31 = .ok (.getfield 239, 3) := by decide +kernel
theorem dX11_liars_34 : decode cX11_liars 34 = .ok (.iload_n 2, 1) := by decide +kernel
theorem dX11_liars_35 : decode cX11_liars 35 = .ok (.iaload, 1) := by decide +kernel
theorem dX11_liars_36 : decode cX11_liars 36 = .ok (.aload_n 0, 1) := by decide +kernel
theorem dX11_liars_37 : decode cX11_liars 37 = .ok (.getfield 12, 3) := by decide +kernel
theorem dX11_liars_40 : decode cX11_liars 40 = .ok (.getfield 69, 3) := by decide +kernel
theorem dX11_liars_43 : decode cX11_liars 43 = .ok (.getfield 230, 3) := by decide +kernel
theorem dX11_liars_46 : decode cX11_liars 46 = .ok (.iload_n 2, 1) := by decide +kernel
theorem dX11_liars_47 : decode cX11_liars 47 = .ok (.iaload, 1) := by decide +kernel
theorem dX11_liars_48 : decode cX11_liars 48 = .ok (.if_icmp .eq 9, 3) := by decide +kernel
theorem dX11_liars_51 : decode cX11_liars 51 = .ok (.iload_n 1, 1) := by decide +kernel
theorem dX11_liars_52 : decode cX11_liars 52 = .ok (.iconst 1, 1) := by decide +kernel
theorem dX11_liars_53 : decode cX11_liars 53 = .ok (.iload_n 2, 1) := by decide +kernel
theorem dX11_liars_54 : decode cX11_liars 54 = .ok (.ishl, 1) := by decide +kernel
theorem dX11_liars_55 : decode cX11_liars 55 = .ok (.ior, 1) := by decide +kernel
theorem dX11_liars_56 : decode cX11_liars 56 = .ok (.istore_n 1, 1) := by decide +kernel
theorem dX11_liars_57 : decode cX11_liars 57 = .ok (.iinc 2 1, 3) := by decide +kernel
theorem dX11_liars_60 : decode cX11_liars 60 = .ok (.goto (-56), 3) := by decide +kernel
theorem dX11_liars_63 : decode cX11_liars 63 = .ok (.iload_n 1, 1) := by decide +kernel
theorem dX11_liars_64 : decode cX11_liars 64 = .ok (.ireturn, 1) := by decide +kernel
theorem dX11_look_0 : decode cX11_look 0 = .ok (.aload_n 0, 1) := by decide +kernel
theorem dX11_look_1 : decode cX11_look 1 = .ok (.getfield 12, 3) := by decide +kernel
theorem dX11_look_4 : decode cX11_look 4 = .ok (.getfield 69, 3) := by decide +kernel
theorem dX11_look_7 : decode cX11_look 7 = .ok (.astore_n 2, 1) := by decide +kernel
theorem dX11_look_8 : decode cX11_look 8 = .ok (.iload_n 1, 1) := by decide +kernel
theorem dX11_look_9 : decode cX11_look 9 = .ok (.tableswitch 259 0 24 #[115, 126, 131, 136, 141, 146, 157, 168, 184, 195, 206, 217, 259, 259, 259, 259, 259, 259, 259, 259, 222, 227, 235, 243, 251], 115) := by decide +kernel
theorem dX11_look_124 : decode cX11_look 124 = .ok (.aload_n 0, 1) := by decide +kernel
theorem dX11_look_125 : decode cX11_look 125 = .ok (.getfield 12, 3) := by decide +kernel
theorem dX11_look_128 : decode cX11_look 128 = .ok (.getfield 79, 3) := by decide +kernel
theorem dX11_look_131 : decode cX11_look 131 = .ok (.getfield 89, 3) := by decide +kernel
theorem dX11_look_134 : decode cX11_look 134 = .ok (.ireturn, 1) := by decide +kernel
theorem dX11_look_135 : decode cX11_look 135 = .ok (.aload_n 2, 1) := by decide +kernel
theorem dX11_look_136 : decode cX11_look 136 = .ok (.getfield 102, 3) := by decide +kernel
theorem dX11_look_139 : decode cX11_look 139 = .ok (.ireturn, 1) := by decide +kernel
theorem dX11_look_140 : decode cX11_look 140 = .ok (.aload_n 2, 1) := by decide +kernel
theorem dX11_look_141 : decode cX11_look 141 = .ok (.getfield 195, 3) := by decide +kernel
theorem dX11_look_144 : decode cX11_look 144 = .ok (.ireturn, 1) := by decide +kernel
theorem dX11_look_145 : decode cX11_look 145 = .ok (.aload_n 2, 1) := by decide +kernel
theorem dX11_look_146 : decode cX11_look 146 = .ok (.getfield 297, 3) := by decide +kernel
theorem dX11_look_149 : decode cX11_look 149 = .ok (.ireturn, 1) := by decide +kernel
theorem dX11_look_150 : decode cX11_look 150 = .ok (.aload_n 2, 1) := by decide +kernel
theorem dX11_look_151 : decode cX11_look 151 = .ok (.getfield 72, 3) := by decide +kernel
theorem dX11_look_154 : decode cX11_look 154 = .ok (.ireturn, 1) := by decide +kernel
theorem dX11_look_155 : decode cX11_look 155 = .ok (.aload_n 0, 1) := by decide +kernel
theorem dX11_look_156 : decode cX11_look 156 = .ok (.getfield 12, 3) := by decide +kernel
theorem dX11_look_159 : decode cX11_look 159 = .ok (.getfield 172, 3) := by decide +kernel
theorem dX11_look_162 : decode cX11_look 162 = .ok (.getfield 181, 3) := by decide +kernel
theorem dX11_look_165 : decode cX11_look 165 = .ok (.ireturn, 1) := by decide +kernel
theorem dX11_look_166 : decode cX11_look 166 = .ok (.aload_n 0, 1) := by decide +kernel
theorem dX11_look_167 : decode cX11_look 167 = .ok (.getfield 12, 3) := by decide +kernel
theorem dX11_look_170 : decode cX11_look 170 = .ok (.getfield 165, 3) := by decide +kernel
theorem dX11_look_173 : decode cX11_look 173 = .ok (.getfield 171, 3) := by decide +kernel
theorem dX11_look_176 : decode cX11_look 176 = .ok (.ireturn, 1) := by decide +kernel
theorem dX11_look_177 : decode cX11_look 177 = .ok (.aload_n 0, 1) := by decide +kernel
theorem dX11_look_178 : decode cX11_look 178 = .ok (.getfield 12, 3) := by decide +kernel
theorem dX11_look_181 : decode cX11_look 181 = .ok (.getfield 182, 3) := by decide +kernel
theorem dX11_look_184 : decode cX11_look 184 = .ok (.getfield 191, 3) := by decide +kernel
theorem dX11_look_187 : decode cX11_look 187 = .ok (.aload_n 2, 1) := by decide +kernel
theorem dX11_look_188 : decode cX11_look 188 = .ok (.getfield 188, 3) := by decide +kernel
theorem dX11_look_191 : decode cX11_look 191 = .ok (.isub, 1) := by decide +kernel
theorem dX11_look_192 : decode cX11_look 192 = .ok (.ireturn, 1) := by decide +kernel
theorem dX11_look_193 : decode cX11_look 193 = .ok (.aload_n 0, 1) := by decide +kernel
theorem dX11_look_194 : decode cX11_look 194 = .ok (.getfield 12, 3) := by decide +kernel
theorem dX11_look_197 : decode cX11_look 197 = .ok (.getfield 152, 3) := by decide +kernel
theorem dX11_look_200 : decode cX11_look 200 = .ok (.getfield 159, 3) := by decide +kernel
theorem dX11_look_203 : decode cX11_look 203 = .ok (.ireturn, 1) := by decide +kernel
theorem dX11_look_204 : decode cX11_look 204 = .ok (.aload_n 0, 1) := by decide +kernel
theorem dX11_look_205 : decode cX11_look 205 = .ok (.getfield 12, 3) := by decide +kernel
theorem dX11_look_208 : decode cX11_look 208 = .ok (.getfield 162, 3) := by decide +kernel
theorem dX11_look_211 : decode cX11_look 211 = .ok (.getfield 159, 3) := by decide +kernel
theorem dX11_look_214 : decode cX11_look 214 = .ok (.ireturn, 1) := by decide +kernel
theorem dX11_look_215 : decode cX11_look 215 = .ok (.aload_n 0, 1) := by decide +kernel
theorem dX11_look_216 : decode cX11_look 216 = .ok (.getfield 12, 3) := by decide +kernel
theorem dX11_look_219 : decode cX11_look 219 = .ok (.getfield 341, 3) := by decide +kernel
theorem dX11_look_222 : decode cX11_look 222 = .ok (.getfield 345, 3) := by decide +kernel
theorem dX11_look_225 : decode cX11_look 225 = .ok (.ireturn, 1) := by decide +kernel
theorem dX11_look_226 : decode cX11_look 226 = .ok (.aload_n 0, 1) := by decide +kernel
theorem dX11_look_227 : decode cX11_look 227 = .ok (.getfield 211, 3) := by decide +kernel
theorem dX11_look_230 : decode cX11_look 230 = .ok (.ireturn, 1) := by decide +kernel
theorem dX11_look_231 : decode cX11_look 231 = .ok (.aload_n 2, 1) := by decide +kernel
theorem dX11_look_232 : decode cX11_look 232 = .ok (.getfield 265, 3) := by decide +kernel
theorem dX11_look_235 : decode cX11_look 235 = .ok (.ireturn, 1) := by decide +kernel
theorem dX11_look_236 : decode cX11_look 236 = .ok (.aload_n 0, 1) := by decide +kernel
theorem dX11_look_237 : decode cX11_look 237 = .ok (.getfield 12, 3) := by decide +kernel
theorem dX11_look_240 : decode cX11_look 240 = .ok (.getfield 376, 3) := by decide +kernel
theorem dX11_look_243 : decode cX11_look 243 = .ok (.ireturn, 1) := by decide +kernel
theorem dX11_look_244 : decode cX11_look 244 = .ok (.aload_n 0, 1) := by decide +kernel
theorem dX11_look_245 : decode cX11_look 245 = .ok (.getfield 12, 3) := by decide +kernel
theorem dX11_look_248 : decode cX11_look 248 = .ok (.getfield 255, 3) := by decide +kernel
theorem dX11_look_251 : decode cX11_look 251 = .ok (.ireturn, 1) := by decide +kernel
theorem dX11_look_252 : decode cX11_look 252 = .ok (.aload_n 0, 1) := by decide +kernel
theorem dX11_look_253 : decode cX11_look 253 = .ok (.getfield 12, 3) := by decide +kernel
theorem dX11_look_256 : decode cX11_look 256 = .ok (.getfield 379, 3) := by decide +kernel
theorem dX11_look_259 : decode cX11_look 259 = .ok (.ireturn, 1) := by decide +kernel
theorem dX11_look_260 : decode cX11_look 260 = .ok (.aload_n 0, 1) := by decide +kernel
theorem dX11_look_261 : decode cX11_look 261 = .ok (.getfield 12, 3) := by decide +kernel
theorem dX11_look_264 : decode cX11_look 264 = .ok (.getfield 382, 3) := by decide +kernel
theorem dX11_look_267 : decode cX11_look 267 = .ok (.ireturn, 1) := by decide +kernel
theorem dX11_look_268 : decode cX11_look 268 = .ok (.sipush (-1000), 3) := by decide +kernel
theorem dX11_look_271 : decode cX11_look 271 = .ok (.ireturn, 1) := by decide +kernel
theorem dX11_mend_0 : decode cX11_mend 0 = .ok (.iload_n 1, 1) := by decide +kernel
theorem dX11_mend_1 : decode cX11_mend 1 = .ok (.iconst (-1), 1) := by decide +kernel
theorem dX11_mend_2 : decode cX11_mend 2 = .ok (.if_icmp .eq 19, 3) := by decide +kernel
theorem dX11_mend_5 : decode cX11_mend 5 = .ok (.aload_n 0, 1) := by decide +kernel
theorem dX11_mend_6 : decode cX11_mend 6 = .ok (.getfield 12, 3) := by decide +kernel
theorem dX11_mend_9 : decode cX11_mend 9 = .ok (.getfield 79, 3) := by decide +kernel
theorem dX11_mend_12 : decode cX11_mend 12 = .ok (.iload_n 1, 1) := by decide +kernel
theorem dX11_mend_13 : decode cX11_mend 13 = .ok (.invokevirtual 111, 3) := by decide +kernel
theorem dX11_mend_16 : decode cX11_mend 16 = .ok (.ifCond .ne 5, 3) := by decide +kernel
theorem dX11_mend_19 : decode cX11_mend 19 = .ok (.iconst (-1), 1) := by decide +kernel
theorem dX11_mend_20 : decode cX11_mend 20 = .ok (.ireturn, 1) := by decide +kernel
theorem dX11_mend_21 : decode cX11_mend 21 = .ok (.aload_n 0, 1) := by decide +kernel
theorem dX11_mend_22 : decode cX11_mend 22 = .ok (.getfield 12, 3) := by decide +kernel
theorem dX11_mend_25 : decode cX11_mend 25 = .ok (.getfield 69, 3) := by decide +kernel
theorem dX11_mend_28 : decode cX11_mend 28 = .ok (.getfield 230, 3) := by decide +kernel
theorem dX11_mend_31 : decode cX11_mend 31 = .ok (.astore_n 2, 1) := by decide +kernel
theorem dX11_mend_32 : decode cX11_mend 32 = .ok (.aload_n 0, 1) := by decide +kernel
theorem dX11_mend_33 : decode cX11_mend 33 = .ok (.getfield 12, 3) := by decide +kernel
theorem dX11_mend_36 : decode cX11_mend 36 = .ok (.getfield 79, 3) := by decide +kernel
theorem dX11_mend_39 : decode cX11_mend 39 = .ok (.aload_n 2, 1) := by decide +kernel
theorem dX11_mend_40 : decode cX11_mend 40 = .ok (.aload_n 0, 1) := by decide +kernel
theorem dX11_mend_41 : decode cX11_mend 41 = .ok (.getfield 12, 3) := by decide +kernel
theorem dX11_mend_44 : decode cX11_mend 44 = .ok (.getfield 255, 3) := by decide +kernel
theorem dX11_mend_47 : decode cX11_mend 47 = .ok (.invokevirtual 319, 3) := by decide +kernel
theorem dX11_mend_50 : decode cX11_mend 50 = .ok (.ifCond .ne 5, 3) := by decide +kernel
theorem dX11_mend_53 : decode cX11_mend 53 = .ok (.iconst (-1), 1) := by decide +kernel
theorem dX11_mend_54 : decode cX11_mend 54 = .ok (.ireturn, 1) := by decide +kernel
theorem dX11_mend_55 : decode cX11_mend 55 = .ok (.iload_n 1, 1) := by decide +kernel
theorem dX11_mend_56 : decode cX11_mend 56 = .ok (.iconst (-1), 1) := by decide +kernel
theorem dX11_mend_57 : decode cX11_mend 57 = .ok (.if_icmp .eq 20, 3) := by decide +kernel
theorem dX11_mend_60 : decode cX11_mend 60 = .ok (.aload_n 0, 1) := by decide +kernel
theorem dX11_mend_61 : decode cX11_mend 61 = .ok (.getfield 12, 3) := by decide +kernel
theorem dX11_mend_64 : decode cX11_mend 64 = .ok (.getfield 79, 3) := by decide +kernel
theorem dX11_mend_67 : decode cX11_mend 67 = .ok (.getfield 323, 3) := by decide +kernel
theorem dX11_mend_70 : decode cX11_mend 70 = .ok (.iload_n 1, 1) := by decide +kernel
theorem dX11_mend_71 : decode cX11_mend 71 = .ok (.iaload, 1) := by decide +kernel
theorem dX11_mend_72 : decode cX11_mend 72 = .ok (.aload_n 2, 1) := by decide +kernel
theorem dX11_mend_73 : decode cX11_mend 73 = .ok (.iload_n 1, 1) := by decide +kernel
theorem dX11_mend_74 : decode cX11_mend 74 = .ok (.iaload, 1) := by decide +kernel
theorem dX11_mend_75 : decode cX11_mend 75 = .ok (.isub, 1) := by decide +kernel
theorem dX11_mend_76 : decode cX11_mend 76 = .ok (.ireturn, 1) := by decide +kernel
theorem dX11_mend_77 : decode cX11_mend 77 = .ok (.iconst 0, 1) := by decide +kernel
theorem dX11_mend_78 : decode cX11_mend 78 = .ok (.istore_n 3, 1) := by decide +kernel
theorem dX11_mend_79 : decode cX11_mend 79 = .ok (.iconst 0, 1) := by decide +kernel
theorem dX11_mend_80 : decode cX11_mend 80 = .ok (.istore 4, 2) := by decide +kernel
theorem dX11_mend_82 : decode cX11_mend 82 = .ok (.iload 4, 2) := by decide +kernel
theorem dX11_mend_84 : decode cX11_mend 84 = .ok (.aload_n 0, 1) := by decide +kernel
theorem dX11_mend_85 : decode cX11_mend 85 = .ok (.getfield 12, 3) := by decide +kernel
theorem dX11_mend_88 : decode cX11_mend 88 = .ok (.getfield 79, 3) := by decide +kernel
theorem dX11_mend_91 : decode cX11_mend 91 = .ok (.getfield 89, 3) := by decide +kernel
theorem dX11_mend_94 : decode cX11_mend 94 = .ok (.if_icmp .ge 30, 3) := by decide +kernel
theorem dX11_mend_97 : decode cX11_mend 97 = .ok (.iload_n 3, 1) := by decide +kernel
theorem dX11_mend_98 : decode cX11_mend 98 = .ok (.aload_n 0, 1) := by decide +kernel
theorem dX11_mend_99 : decode cX11_mend 99 = .ok (.getfield 12, 3) := by decide +kernel
theorem dX11_mend_102 : decode cX11_mend 102 = .ok (.getfield 79, 3) := by decide +kernel
theorem dX11_mend_105 : decode cX11_mend 105 = .ok (.getfield 323, 3) := by decide +kernel
theorem dX11_mend_108 : decode cX11_mend 108 = .ok (.iload 4, 2) := by decide +kernel
theorem dX11_mend_110 : decode cX11_mend 110 = .ok (.iaload, 1) := by decide +kernel
theorem dX11_mend_111 : decode cX11_mend 111 = .ok (.aload_n 2, 1) := by decide +kernel
theorem dX11_mend_112 : decode cX11_mend 112 = .ok (.iload 4, 2) := by decide +kernel
theorem dX11_mend_114 : decode cX11_mend 114 = .ok (.iaload, 1) := by decide +kernel
theorem dX11_mend_115 : decode cX11_mend 115 = .ok (.isub, 1) := by decide +kernel
theorem dX11_mend_116 : decode cX11_mend 116 = .ok (.iadd, 1) := by decide +kernel
theorem dX11_mend_117 : decode cX11_mend 117 = .ok (.istore_n 3, 1) := by decide +kernel
theorem dX11_mend_118 : decode cX11_mend 118 = .ok (.iinc 4 1, 3) := by decide +kernel
theorem dX11_mend_121 : decode cX11_mend 121 = .ok (.goto (-39), 3) := by decide +kernel
theorem dX11_mend_124 : decode cX11_mend 124 = .ok (.iload_n 3, 1) := by decide +kernel
theorem dX11_mend_125 : decode cX11_mend 125 = .ok (.ireturn, 1) := by decide +kernel
theorem dX11_need_0 : decode cX11_need 0 = .ok (.aload_n 0, 1) := by decide +kernel
theorem dX11_need_1 : decode cX11_need 1 = .ok (.getfield 12, 3) := by decide +kernel
theorem dX11_need_4 : decode cX11_need 4 = .ok (.getfield 172, 3) := by decide +kernel
theorem dX11_need_7 : decode cX11_need 7 = .ok (.astore_n 3, 1) := by decide +kernel
theorem dX11_need_8 : decode cX11_need 8 = .ok (.iload_n 1, 1) := by decide +kernel
theorem dX11_need_9 : decode cX11_need 9 = .ok (.ifCond .lt 17, 3) := by decide +kernel
theorem dX11_need_12 : decode cX11_need 12 = .ok (.iload_n 1, 1) := by decide +kernel
theorem dX11_need_13 : decode cX11_need 13 = .ok (.aload_n 3, 1) := by decide +kernel
theorem dX11_need_14 : decode cX11_need 14 = .ok (.getfield 181, 3) := by decide +kernel
theorem dX11_need_17 : decode cX11_need 17 = .ok (.if_icmp .ge 9, 3) := by decide +kernel
theorem dX11_need_20 : decode cX11_need 20 = .ok (.iload_n 1, 1) := by decide +kernel
theorem dX11_need_21 : decode cX11_need 21 = .ok (.bipush 10, 2) := by decide +kernel
theorem dX11_need_23 : decode cX11_need 23 = .ok (.if_icmp .lt 6, 3) := by decide +kernel
theorem dX11_need_26 : decode cX11_need 26 = .ok (.bipush (-2), 2) := by decide +kernel
theorem dX11_need_28 : decode cX11_need 28 = .ok (.ireturn, 1) := by decide +kernel
theorem dX11_need_29 : decode cX11_need 29 = .ok (.iload_n 2, 1) := by decide +kernel
theorem dX11_need_30 : decode cX11_need 30 = .ok (.tableswitch 130 0 7 #[46, 53, 60, 67, 74, 81, 94, 109], 46) := by decide +kernel
theorem dX11_need_76 : decode cX11_need 76 = .ok (.aload_n 3, 1) := by decide +kernel
theorem dX11_need_77 : decode cX11_need 77 = .ok (.getfield 272, 3) := by decide +kernel
theorem dX11_need_80 : decode cX11_need 80 = .ok (.iload_n 1, 1) := by decide +kernel
theorem dX11_need_81 : decode cX11_need 81 = .ok (.iaload, 1) := by decide +kernel
theorem dX11_need_82 : decode cX11_need 82 = .ok (.ireturn, 1) := by decide +kernel
theorem dX11_need_83 : decode cX11_need 83 = .ok (.aload_n 3, 1) := by decide +kernel
theorem dX11_need_84 : decode cX11_need 84 = .ok (.getfield 275, 3) := by decide +kernel
theorem dX11_need_87 : decode cX11_need 87 = .ok (.iload_n 1, 1) := by decide +kernel
theorem dX11_need_88 : decode cX11_need 88 = .ok (.iaload, 1) := by decide +kernel
theorem dX11_need_89 : decode cX11_need 89 = .ok (.ireturn, 1) := by decide +kernel
theorem dX11_need_90 : decode cX11_need 90 = .ok (.aload_n 3, 1) := by decide +kernel
theorem dX11_need_91 : decode cX11_need 91 = .ok (.getfield 278, 3) := by decide +kernel
theorem dX11_need_94 : decode cX11_need 94 = .ok (.iload_n 1, 1) := by decide +kernel
theorem dX11_need_95 : decode cX11_need 95 = .ok (.iaload, 1) := by decide +kernel
theorem dX11_need_96 : decode cX11_need 96 = .ok (.ireturn, 1) := by decide +kernel
theorem dX11_need_97 : decode cX11_need 97 = .ok (.aload_n 3, 1) := by decide +kernel
theorem dX11_need_98 : decode cX11_need 98 = .ok (.getfield 281, 3) := by decide +kernel
theorem dX11_need_101 : decode cX11_need 101 = .ok (.iload_n 1, 1) := by decide +kernel
theorem dX11_need_102 : decode cX11_need 102 = .ok (.iaload, 1) := by decide +kernel
theorem dX11_need_103 : decode cX11_need 103 = .ok (.ireturn, 1) := by decide +kernel
theorem dX11_need_104 : decode cX11_need 104 = .ok (.aload_n 3, 1) := by decide +kernel
theorem dX11_need_105 : decode cX11_need 105 = .ok (.getfield 284, 3) := by decide +kernel
theorem dX11_need_108 : decode cX11_need 108 = .ok (.iload_n 1, 1) := by decide +kernel
theorem dX11_need_109 : decode cX11_need 109 = .ok (.iaload, 1) := by decide +kernel
theorem dX11_need_110 : decode cX11_need 110 = .ok (.ireturn, 1) := by decide +kernel
theorem dX11_need_111 : decode cX11_need 111 = .ok (.aload_n 0, 1) := by decide +kernel
theorem dX11_need_112 : decode cX11_need 112 = .ok (.getfield 12, 3) := by decide +kernel
theorem dX11_need_115 : decode cX11_need 115 = .ok (.getfield 69, 3) := by decide +kernel
theorem dX11_need_118 : decode cX11_need 118 = .ok (.getfield 287, 3) := by decide +kernel
theorem dX11_need_121 : decode cX11_need 121 = .ok (.iload_n 1, 1) := by decide +kernel
theorem dX11_need_122 : decode cX11_need 122 = .ok (.iaload, 1) := by decide +kernel
theorem dX11_need_123 : decode cX11_need 123 = .ok (.ireturn, 1) := by decide +kernel
theorem dX11_need_124 : decode cX11_need 124 = .ok (.aload_n 0, 1) := by decide +kernel
theorem dX11_need_125 : decode cX11_need 125 = .ok (.getfield 12, 3) := by decide +kernel
theorem dX11_need_128 : decode cX11_need 128 = .ok (.getfield 69, 3) := by decide +kernel
theorem dX11_need_131 : decode cX11_need 131 = .ok (.getfield 290, 3) := by decide +kernel
theorem dX11_need_134 : decode cX11_need 134 = .ok (.iload_n 1, 1) := by decide +kernel
theorem dX11_need_135 : decode cX11_need 135 = .ok (.ishr, 1) := by decide +kernel
theorem dX11_need_136 : decode cX11_need 136 = .ok (.iconst 1, 1) := by decide +kernel
theorem dX11_need_137 : decode cX11_need 137 = .ok (.iand, 1) := by decide +kernel
theorem dX11_need_138 : decode cX11_need 138 = .ok (.ireturn, 1) := by decide +kernel
theorem dX11_need_139 : decode cX11_need 139 = .ok (.aload_n 3, 1) := by decide +kernel
theorem dX11_need_140 : decode cX11_need 140 = .ok (.iload_n 1, 1) := by decide +kernel
theorem dX11_need_141 : decode cX11_need 141 = .ok (.aload_n 0, 1) := by decide +kernel
theorem dX11_need_142 : decode cX11_need 142 = .ok (.getfield 12, 3) := by decide +kernel
theorem dX11_need_145 : decode cX11_need 145 = .ok (.getfield 69, 3) := by decide +kernel
theorem dX11_need_148 : decode cX11_need 148 = .ok (.invokevirtual 293, 3) := by decide +kernel
theorem dX11_need_151 : decode cX11_need 151 = .ok (.ifCond .eq 7, 3) := by decide +kernel
theorem dX11_need_154 : decode cX11_need 154 = .ok (.iconst 1, 1) := by decide +kernel
theorem dX11_need_155 : decode cX11_need 155 = .ok (.goto 4, 3) := by decide +kernel
theorem dX11_need_158 : decode cX11_need 158 = .ok (.iconst 0, 1) := by decide +kernel
theorem dX11_need_159 : decode cX11_need 159 = .ok (.ireturn, 1) := by decide +kernel
theorem dX11_need_160 : decode cX11_need 160 = .ok (.bipush (-2), 2) := by decide +kernel
theorem dX11_need_162 : decode cX11_need 162 = .ok (.ireturn, 1) := by decide +kernel
theorem dX11_nights_0 : decode cX11_nights 0 = .ok (.iload_n 1, 1) := by decide +kernel
theorem dX11_nights_1 : decode cX11_nights 1 = .ok (.iconst 1, 1) := by decide +kernel
theorem dX11_nights_2 : decode cX11_nights 2 = .ok (.if_icmp .lt 40, 3) := by decide +kernel
theorem dX11_nights_5 : decode cX11_nights 5 = .ok (.iload_n 1, 1) := by decide +kernel
theorem dX11_nights_6 : decode cX11_nights 6 = .ok (.bipush 60, 2) := by decide +kernel
theorem dX11_nights_8 : decode cX11_nights 8 = .ok (.if_icmp .gt 34, 3) := by decide +kernel
theorem dX11_nights_11 : decode cX11_nights 11 = .ok (.aload_n 0, 1) := by decide +kernel
theorem dX11_nights_12 : decode cX11_nights 12 = .ok (.getfield 12, 3) := by decide +kernel
theorem dX11_nights_15 : decode cX11_nights 15 = .ok (.getfield 79, 3) := by decide +kernel
theorem dX11_nights_18 : decode cX11_nights 18 = .ok (.getfield 89, 3) := by decide +kernel
theorem dX11_nights_21 : decode cX11_nights 21 = .ok (.ifCond .eq 21, 3) := by decide +kernel
theorem dX11_nights_24 : decode cX11_nights 24 = .ok (.aload_n 0, 1) := by decide +kernel
theorem dX11_nights_25 : decode cX11_nights 25 = .ok (.getfield 12, 3) := by decide +kernel
theorem dX11_nights_28 : decode cX11_nights 28 = .ok (.getfield 69, 3) := by decide +kernel
theorem dX11_nights_31 : decode cX11_nights 31 = .ok (.getfield 195, 3) := by decide +kernel
theorem dX11_nights_34 : decode cX11_nights 34 = .ok (.iload_n 1, 1) := by decide +kernel
theorem dX11_nights_35 : decode cX11_nights 35 = .ok (.iadd, 1) := by decide +kernel
theorem dX11_nights_36 : decode cX11_nights 36 = .ok (.sipush 9999, 3) := by decide +kernel
theorem dX11_nights_39 : decode cX11_nights 39 = .ok (.if_icmp .le 5, 3) := by decide +kernel
theorem dX11_nights_42 : decode cX11_nights 42 = .ok (.iconst (-1), 1) := by decide +kernel
theorem dX11_nights_43 : decode cX11_nights 43 = .ok (.ireturn, 1) := by decide +kernel
theorem dX11_nights_44 : decode cX11_nights 44 = .ok (.iconst 0, 1) := by decide +kernel
theorem dX11_nights_45 : decode cX11_nights 45 = .ok (.istore_n 2, 1) := by decide +kernel
theorem dX11_nights_46 : decode cX11_nights 46 = .ok (.iconst 0, 1) := by decide +kernel
theorem dX11_nights_47 : decode cX11_nights 47 = .ok (.istore_n 3, 1) := by decide +kernel
theorem dX11_nights_48 : decode cX11_nights 48 = .ok (.iload_n 3, 1) := by decide +kernel
theorem dX11_nights_49 : decode cX11_nights 49 = .ok (.iload_n 1, 1) := by decide +kernel
theorem dX11_nights_50 : decode cX11_nights 50 = .ok (.if_icmp .ge 42, 3) := by decide +kernel
theorem dX11_nights_53 : decode cX11_nights 53 = .ok (.iload_n 1, 1) := by decide +kernel
theorem dX11_nights_54 : decode cX11_nights 54 = .ok (.iload_n 3, 1) := by decide +kernel
theorem dX11_nights_55 : decode cX11_nights 55 = .ok (.isub, 1) := by decide +kernel
theorem dX11_nights_56 : decode cX11_nights 56 = .ok (.bipush 6, 2) := by decide +kernel
theorem dX11_nights_58 : decode cX11_nights 58 = .ok (.if_icmp .gt 7, 3) := by decide +kernel
theorem dX11_nights_61 : decode cX11_nights 61 = .ok (.aload_n 0, 1) := by decide +kernel
theorem dX11_nights_62 : decode cX11_nights 62 = .ok (.invokevirtual 198, 3) := by decide +kernel
theorem dX11_nights_65 : decode cX11_nights 65 = .ok (.aload_n 0, 1) := by decide +kernel
theorem dX11_nights_66 : decode cX11_nights 66 = .ok (.getfield 12, 3) := by decide +kernel
theorem dX11_nights_69 : decode cX11_nights 69 = .ok (.aload_n 0, 1) := by decide +kernel
theorem dX11_nights_70 : decode cX11_nights 70 = .ok (.getfield 12, 3) := by decide +kernel
theorem dX11_nights_73 : decode cX11_nights 73 = .ok (.getfield 69, 3) := by decide +kernel
theorem dX11_nights_76 : decode cX11_nights 76 = .ok (.iconst 1, 1) := by decide +kernel
theorem dX11_nights_77 : decode cX11_nights 77 = .ok (.invokevirtual 201, 3) := by decide +kernel
theorem dX11_nights_80 : decode cX11_nights 80 = .ok (.ifCond .eq 6, 3) := by decide +kernel
theorem dX11_nights_83 : decode cX11_nights 83 = .ok (.iinc 2 1, 3) := by decide +kernel
theorem dX11_nights_86 : decode cX11_nights 86 = .ok (.iinc 3 1, 3) := by decide +kernel
theorem dX11_nights_89 : decode cX11_nights 89 = .ok (.goto (-41), 3) := by decide +kernel
theorem dX11_nights_92 : decode cX11_nights 92 = .ok (.aload_n 0, 1) := by decide +kernel
theorem dX11_nights_93 : decode cX11_nights 93 = .ok (.invokevirtual 205, 3) := by decide +kernel
theorem dX11_nights_96 : decode cX11_nights 96 = .ok (.iload_n 2, 1) := by decide +kernel
theorem dX11_nights_97 : decode cX11_nights 97 = .ok (.ireturn, 1) := by decide +kernel
theorem dX11_of_0 : decode cX11_of 0 = .ok (.aload_n 0, 1) := by decide +kernel
theorem dX11_of_1 : decode cX11_of 1 = .ok (.getfield 12, 3) := by decide +kernel
theorem dX11_of_4 : decode cX11_of 4 = .ok (.getfield 79, 3) := by decide +kernel
theorem dX11_of_7 : decode cX11_of 7 = .ok (.iload_n 1, 1) := by decide +kernel
theorem dX11_of_8 : decode cX11_of 8 = .ok (.invokevirtual 111, 3) := by decide +kernel
theorem dX11_of_11 : decode cX11_of 11 = .ok (.ifCond .ne 6, 3) := by decide +kernel
theorem dX11_of_14 : decode cX11_of 14 = .ok (.ldc 226, 2) := by decide +kernel
theorem dX11_of_16 : decode cX11_of 16 = .ok (.ireturn, 1) := by decide +kernel
theorem dX11_of_17 : decode cX11_of 17 = .ok (.aload_n 0, 1) := by decide +kernel
theorem dX11_of_18 : decode cX11_of 18 = .ok (.getfield 12, 3) := by decide +kernel
theorem dX11_of_21 : decode cX11_of 21 = .ok (.getfield 69, 3) := by decide +kernel
theorem dX11_of_24 : decode cX11_of 24 = .ok (.astore_n 3, 1) := by decide +kernel
theorem dX11_of_25 : decode cX11_of 25 = .ok (.iload_n 2, 1) := by decide +kernel
theorem dX11_of_26 : decode cX11_of 26 = .ok (.tableswitch 227 0 13 #[70, 83, 96, 103, 110, 117, 124, 137, 150, 160, 170, 183, 192, 215], 70) := by decide +kernel
theorem dX11_of_96 : decode cX11_of 96 = .ok (.aload_n 0, 1) := by decide +kernel
theorem dX11_of_97 : decode cX11_of 97 = .ok (.getfield 12, 3) := by decide +kernel
theorem dX11_of_100 : decode cX11_of 100 = .ok (.getfield 79, 3) := by decide +kernel
theorem dX11_of_103 : decode cX11_of 103 = .ok (.getfield 92, 3) := by decide +kernel
theorem dX11_of_106 : decode cX11_of 106 = .ok (.iload_n 1, 1) := by decide +kernel
theorem dX11_of_107 : decode cX11_of 107 = .ok (.iaload, 1) := by decide +kernel
theorem dX11_of_108 : decode cX11_of 108 = .ok (.ireturn, 1) := by decide +kernel
theorem dX11_of_109 : decode cX11_of 109 = .ok (.aload_n 0, 1) := by decide +kernel
theorem dX11_of_110 : decode cX11_of 110 = .ok (.getfield 12, 3) := by decide +kernel
theorem dX11_of_113 : decode cX11_of 113 = .ok (.getfield 79, 3) := by decide +kernel
theorem dX11_of_116 : decode cX11_of 116 = .ok (.getfield 96, 3) := by decide +kernel
theorem dX11_of_119 : decode cX11_of 119 = .ok (.iload_n 1, 1) := by decide +kernel
theorem dX11_of_120 : decode cX11_of 120 = .ok (.iaload, 1) := by decide +kernel
theorem dX11_of_121 : decode cX11_of 121 = .ok (.ireturn, 1) := by decide +kernel
theorem dX11_of_122 : decode cX11_of 122 = .ok (.aload_n 3, 1) := by decide +kernel
theorem dX11_of_123 : decode cX11_of 123 = .ok (.getfield 99, 3) := by decide +kernel
theorem dX11_of_126 : decode cX11_of 126 = .ok (.iload_n 1, 1) := by decide +kernel
theorem dX11_of_127 : decode cX11_of 127 = .ok (.iaload, 1) := by decide +kernel
theorem dX11_of_128 : decode cX11_of 128 = .ok (.ireturn, 1) := by decide +kernel
theorem dX11_of_129 : decode cX11_of 129 = .ok (.aload_n 3, 1) := by decide +kernel
theorem dX11_of_130 : decode cX11_of 130 = .ok (.getfield 227, 3) := by decide +kernel
theorem dX11_of_133 : decode cX11_of 133 = .ok (.iload_n 1, 1) := by decide +kernel
theorem dX11_of_134 : decode cX11_of 134 = .ok (.iaload, 1) := by decide +kernel
theorem dX11_of_135 : decode cX11_of 135 = .ok (.ireturn, 1) := by decide +kernel
theorem dX11_of_136 : decode cX11_of 136 = .ok (.aload_n 3, 1) := by decide +kernel
theorem dX11_of_137 : decode cX11_of 137 = .ok (.getfield 230, 3) := by decide +kernel
theorem dX11_of_140 : decode cX11_of 140 = .ok (.iload_n 1, 1) := by decide +kernel
theorem dX11_of_141 : decode cX11_of 141 = .ok (.iaload, 1) := by decide +kernel
theorem dX11_of_142 : decode cX11_of 142 = .ok (.ireturn, 1) := by decide +kernel
theorem dX11_of_143 : decode cX11_of 143 = .ok (.aload_n 3, 1) := by decide +kernel
theorem dX11_of_144 : decode cX11_of 144 = .ok (.getfield 233, 3) := by decide +kernel
theorem dX11_of_147 : decode cX11_of 147 = .ok (.iload_n 1, 1) := by decide +kernel
theorem dX11_of_148 : decode cX11_of 148 = .ok (.iaload, 1) := by decide +kernel
theorem dX11_of_149 : decode cX11_of 149 = .ok (.ireturn, 1) := by decide +kernel
theorem dX11_of_150 : decode cX11_of 150 = .ok (.aload_n 0, 1) := by decide +kernel
theorem dX11_of_151 : decode cX11_of 151 = .ok (.getfield 12, 3) := by decide +kernel
theorem dX11_of_154 : decode cX11_of 154 = .ok (.getfield 79, 3) := by decide +kernel
theorem dX11_of_157 : decode cX11_of 157 = .ok (.getfield 236, 3) := by decide +kernel
theorem dX11_of_160 : decode cX11_of 160 = .ok (.iload_n 1, 1) := by decide +kernel
theorem dX11_of_161 : decode cX11_of 161 = .ok (.iaload, 1) := by decide +kernel
theorem dX11_of_162 : decode cX11_of 162 = .ok (.ireturn, 1) := by decide +kernel
theorem dX11_of_163 : decode cX11_of 163 = .ok (.aload_n 0, 1) := by decide +kernel
theorem dX11_of_164 : decode cX11_of 164 = .ok (.getfield 12, 3) := by decide +kernel
theorem dX11_of_167 : decode cX11_of 167 = .ok (.getfield 79, 3) := by decide +kernel
theorem dX11_of_170 : decode cX11_of 170 = .ok (.getfield 239, 3) := by decide +kernel
theorem dX11_of_173 : decode cX11_of 173 = .ok (.iload_n 1, 1) := by decide +kernel
theorem dX11_of_174 : decode cX11_of 174 = .ok (.iaload, 1) := by decide +kernel
theorem dX11_of_175 : decode cX11_of 175 = .ok (.ireturn, 1) := by decide +kernel
theorem dX11_of_176 : decode cX11_of 176 = .ok (.aload_n 0, 1) := by decide +kernel
theorem dX11_of_177 : decode cX11_of 177 = .ok (.getfield 12, 3) := by decide +kernel
theorem dX11_of_180 : decode cX11_of 180 = .ok (.aload_n 3, 1) := by decide +kernel
theorem dX11_of_181 : decode cX11_of 181 = .ok (.iload_n 1, 1) := by decide +kernel
theorem dX11_of_182 : decode cX11_of 182 = .ok (.invokevirtual 242, 3) := by decide +kernel
theorem dX11_of_185 : decode cX11_of 185 = .ok (.ireturn, 1) := by decide +kernel
theorem dX11_of_186 : decode cX11_of 186 = .ok (.aload_n 0, 1) := by decide +kernel
theorem dX11_of_187 : decode cX11_of 187 = .ok (.getfield 12, 3) := by decide +kernel
theorem dX11_of_190 : decode cX11_of 190 = .ok (.aload_n 3, 1) := by decide +kernel
theorem dX11_of_191 : decode cX11_of 191 = .ok (.iload_n 1, 1) := by decide +kernel
theorem dX11_of_192 : decode cX11_of 192 = .ok (.invokevirtual 246, 3) := by decide +kernel
theorem dX11_of_195 : decode cX11_of 195 = .ok (.ireturn, 1) := by decide +kernel
theorem dX11_of_196 : decode cX11_of 196 = .ok (.aload_n 0, 1) := by decide +kernel
theorem dX11_of_197 : decode cX11_of 197 = .ok (.getfield 12, 3) := by decide +kernel
theorem dX11_of_200 : decode cX11_of 200 = .ok (.getfield 79, 3) := by decide +kernel
theorem dX11_of_203 : decode cX11_of 203 = .ok (.getfield 249, 3) := by decide +kernel
theorem dX11_of_206 : decode cX11_of 206 = .ok (.iload_n 1, 1) := by decide +kernel
theorem dX11_of_207 : decode cX11_of 207 = .ok (.iaload, 1) := by decide +kernel
theorem dX11_of_208 : decode cX11_of 208 = .ok (.ireturn, 1) := by decide +kernel
theorem dX11_of_209 : decode cX11_of 209 = .ok (.aload_n 0, 1) := by decide +kernel
theorem dX11_of_210 : decode cX11_of 210 = .ok (.getfield 12, 3) := by decide +kernel
theorem dX11_of_213 : decode cX11_of 213 = .ok (.iload_n 1, 1) := by decide +kernel
theorem dX11_of_214 : decode cX11_of 214 = .ok (.invokevirtual 252, 3) := by decide +kernel
theorem dX11_of_217 : decode cX11_of 217 = .ok (.ireturn, 1) := by decide +kernel
theorem dX11_of_218 : decode cX11_of 218 = .ok (.aload_n 0, 1) := by decide +kernel
theorem dX11_of_219 : decode cX11_of 219 = .ok (.getfield 12, 3) := by decide +kernel
theorem dX11_of_222 : decode cX11_of 222 = .ok (.getfield 79, 3) := by decide +kernel
theorem dX11_of_225 : decode cX11_of 225 = .ok (.iload_n 1, 1) := by decide +kernel
theorem dX11_of_226 : decode cX11_of 226 = .ok (.aload_n 3, 1) := by decide +kernel
theorem dX11_of_227 : decode cX11_of 227 = .ok (.getfield 230, 3) := by decide +kernel
theorem dX11_of_230 : decode cX11_of 230 = .ok (.aload_n 0, 1) := by decide +kernel
theorem dX11_of_231 : decode cX11_of 231 = .ok (.getfield 12, 3) := by decide +kernel
theorem dX11_of_234 : decode cX11_of 234 = .ok (.getfield 255, 3) := by decide +kernel
theorem dX11_of_237 : decode cX11_of 237 = .ok (.invokevirtual 258, 3) := by decide +kernel
theorem dX11_of_240 : decode cX11_of 240 = .ok (.ireturn, 1) := by decide +kernel
theorem dX11_of_241 : decode cX11_of 241 = .ok (.aload_n 0, 1) := by decide +kernel
theorem dX11_of_242 : decode cX11_of 242 = .ok (.getfield 12, 3) := by decide +kernel
theorem dX11_of_245 : decode cX11_of 245 = .ok (.getfield 79, 3) := by decide +kernel
theorem dX11_of_248 : decode cX11_of 248 = .ok (.iload_n 1, 1) := by decide +kernel
theorem dX11_of_249 : decode cX11_of 249 = .ok (.invokevirtual 262, 3) := by decide +kernel
theorem dX11_of_252 : decode cX11_of 252 = .ok (.ireturn, 1) := by decide +kernel
theorem dX11_of_253 : decode cX11_of 253 = .ok (.ldc 226, 2) := by decide +kernel
theorem dX11_of_255 : decode cX11_of 255 = .ok (.ireturn, 1) := by decide +kernel
theorem dX11_plan_0 : decode cX11_plan 0 = .ok (.iload_n 2, 1) := by decide +kernel
theorem dX11_plan_1 : decode cX11_plan 1 = .ok (.ifCond .eq 22, 3) := by decide +kernel
theorem dX11_plan_4 : decode cX11_plan 4 = .ok (.iload_n 2, 1) := by decide +kernel
theorem dX11_plan_5 : decode cX11_plan 5 = .ok (.iconst 1, 1) := by decide +kernel
theorem dX11_plan_6 : decode cX11_plan 6 = .ok (.if_icmp .eq 17, 3) := by decide +kernel
theorem dX11_plan_9 : decode cX11_plan 9 = .ok (.iload_n 2, 1) := by decide +kernel
theorem dX11_plan_10 : decode cX11_plan 10 = .ok (.bipush 10, 2) := by decide +kernel
theorem dX11_plan_12 : decode cX11_plan 12 = .ok (.if_icmp .lt 15, 3) := by decide +kernel
theorem dX11_plan_15 : decode cX11_plan 15 = .ok (.iload_n 2, 1) := by decide +kernel
theorem dX11_plan_16 : decode cX11_plan 16 = .ok (.bipush 10, 2) := by decide +kernel
theorem dX11_plan_18 : decode cX11_plan 18 = .ok (.isub, 1) := by decide +kernel
theorem dX11_plan_19 : decode cX11_plan 19 = .ok (.iload_n 1, 1) := by decide +kernel
theorem dX11_plan_20 : decode cX11_plan 20 = .ok (.if_icmp .ge 7, 3) := by decide +kernel
theorem dX11_plan_23 : decode cX11_plan 23 = .ok (.iconst 1, 1) := by decide +kernel
theorem dX11_plan_24 : decode cX11_plan 24 = .ok (.goto 4, 3) := by decide +kernel
theorem dX11_plan_27 : decode cX11_plan 27 = .ok (.iconst 0, 1) := by decide +kernel
theorem dX11_plan_28 : decode cX11_plan 28 = .ok (.istore_n 3, 1) := by decide +kernel
theorem dX11_plan_29 : decode cX11_plan 29 = .ok (.iload_n 1, 1) := by decide +kernel
theorem dX11_plan_30 : decode cX11_plan 30 = .ok (.iconst 1, 1) := by decide +kernel
theorem dX11_plan_31 : decode cX11_plan 31 = .ok (.if_icmp .lt 26, 3) := by decide +kernel
theorem dX11_plan_34 : decode cX11_plan 34 = .ok (.iload_n 1, 1) := by decide +kernel
theorem dX11_plan_35 : decode cX11_plan 35 = .ok (.bipush 10, 2) := by decide +kernel
theorem dX11_plan_37 : decode cX11_plan 37 = .ok (.if_icmp .gt 20, 3) := by decide +kernel
theorem dX11_plan_40 : decode cX11_plan 40 = .ok (.iload_n 3, 1) := by decide +kernel
theorem dX11_plan_41 : decode cX11_plan 41 = .ok (.ifCond .eq 16, 3) := by decide +kernel
theorem dX11_plan_44 : decode cX11_plan 44 = .ok (.aload_n 0, 1) := by decide +kernel
theorem dX11_plan_45 : decode cX11_plan 45 = .ok (.getfield 12, 3) := by decide +kernel
theorem dX11_plan_48 : decode cX11_plan 48 = .ok (.getfield 79, 3) := by decide +kernel
theorem dX11_plan_51 : decode cX11_plan 51 = .ok (.getfield 89, 3) := by decide +kernel
theorem dX11_plan_54 : decode cX11_plan 54 = .ok (.ifCond .ne 5, 3) := by decide +kernel
theorem dX11_plan_57 : decode cX11_plan 57 = .ok (.iconst (-1), 1) := by decide +kernel
theorem dX11_plan_58 : decode cX11_plan 58 = .ok (.ireturn, 1) := by decide +kernel
theorem dX11_plan_59 : decode cX11_plan 59 = .ok (.aload_n 0, 1) := by decide +kernel
theorem dX11_plan_60 : decode cX11_plan 60 = .ok (.getfield 217, 3) := by decide +kernel
theorem dX11_plan_63 : decode cX11_plan 63 = .ok (.ifnonnull 14, 3) := by decide +kernel
theorem dX11_plan_77 : decode cX11_plan 77 = .ok (.aload_n 0, 1) := by decide +kernel
theorem dX11_plan_78 : decode cX11_plan 78 = .ok (.getfield 217, 3) := by decide +kernel
theorem dX11_plan_81 : decode cX11_plan 81 = .ok (.getfield 221, 3) := by decide +kernel
theorem dX11_plan_84 : decode cX11_plan 84 = .ok (.iload_n 1, 1) := by decide +kernel
theorem dX11_plan_85 : decode cX11_plan 85 = .ok (.if_icmp .eq 15, 3) := by decide +kernel
theorem dX11_plan_88 : decode cX11_plan 88 = .ok (.aload_n 0, 1) := by decide +kernel
theorem dX11_plan_89 : decode cX11_plan 89 = .ok (.getfield 217, 3) := by decide +kernel
theorem dX11_plan_92 : decode cX11_plan 92 = .ok (.aload_n 0, 1) := by decide +kernel
theorem dX11_plan_93 : decode cX11_plan 93 = .ok (.getfield 12, 3) := by decide +kernel
theorem dX11_plan_96 : decode cX11_plan 96 = .ok (.iload_n 1, 1) := by decide +kernel
theorem dX11_plan_97 : decode cX11_plan 97 = .ok (.invokevirtual 305, 3) := by decide +kernel
theorem dX11_plan_100 : decode cX11_plan 100 = .ok (.iload_n 2, 1) := by decide +kernel
theorem dX11_plan_101 : decode cX11_plan 101 = .ok (.ifCond .ne 11, 3) := by decide +kernel
theorem dX11_plan_104 : decode cX11_plan 104 = .ok (.aload_n 0, 1) := by decide +kernel
theorem dX11_plan_105 : decode cX11_plan 105 = .ok (.getfield 217, 3) := by decide +kernel
theorem dX11_plan_108 : decode cX11_plan 108 = .ok (.getfield 309, 3) := by decide +kernel
theorem dX11_plan_111 : decode cX11_plan 111 = .ok (.ireturn, 1) := by decide +kernel
theorem dX11_plan_112 : decode cX11_plan 112 = .ok (.iload_n 2, 1) := by decide +kernel
theorem dX11_plan_113 : decode cX11_plan 113 = .ok (.iconst 1, 1) := by decide +kernel
theorem dX11_plan_114 : decode cX11_plan 114 = .ok (.if_icmp .ne 13, 3) := by decide +kernel
theorem dX11_plan_117 : decode cX11_plan 117 = .ok (.aload_n 0, 1) := by decide +kernel
theorem dX11_plan_118 : decode cX11_plan 118 = .ok (.getfield 217, 3) := by decide +kernel
theorem dX11_plan_121 : decode cX11_plan 121 = .ok (.invokevirtual 312, 3) := by decide +kernel
theorem dX11_plan_124 : decode cX11_plan 124 = .ok (.goto 14, 3) := by decide +kernel
theorem dX11_plan_127 : decode cX11_plan 127 = .ok (.aload_n 0, 1) := by decide +kernel
theorem dX11_plan_128 : decode cX11_plan 128 = .ok (.getfield 217, 3) := by decide +kernel
theorem dX11_plan_131 : decode cX11_plan 131 = .ok (.iload_n 2, 1) := by decide +kernel
theorem dX11_plan_132 : decode cX11_plan 132 = .ok (.bipush 10, 2) := by decide +kernel
theorem dX11_plan_134 : decode cX11_plan 134 = .ok (.isub, 1) := by decide +kernel
theorem dX11_plan_135 : decode cX11_plan 135 = .ok (.invokevirtual 316, 3) := by decide +kernel
theorem dX11_plan_138 : decode cX11_plan 138 = .ok (.ireturn, 1) := by decide +kernel
theorem dX11_rooms_0 : decode cX11_rooms 0 = .ok (.iload_n 1, 1) := by decide +kernel
theorem dX11_rooms_1 : decode cX11_rooms 1 = .ok (.ifCond .eq 28, 3) := by decide +kernel
theorem dX11_rooms_4 : decode cX11_rooms 4 = .ok (.iload_n 1, 1) := by decide +kernel
theorem dX11_rooms_5 : decode cX11_rooms 5 = .ok (.bipush 10, 2) := by decide +kernel
theorem dX11_rooms_7 : decode cX11_rooms 7 = .ok (.if_icmp .lt 20, 3) := by decide +kernel
theorem dX11_rooms_10 : decode cX11_rooms 10 = .ok (.aload_n 0, 1) := by decide +kernel
theorem dX11_rooms_11 : decode cX11_rooms 11 = .ok (.getfield 12, 3) := by decide +kernel
theorem dX11_rooms_14 : decode cX11_rooms 14 = .ok (.getfield 79, 3) := by decide +kernel
theorem dX11_rooms_17 : decode cX11_rooms 17 = .ok (.iload_n 1, 1) := by decide +kernel
theorem dX11_rooms_18 : decode cX11_rooms 18 = .ok (.bipush 10, 2) := by decide +kernel
theorem dX11_rooms_20 : decode cX11_rooms 20 = .ok (.isub, 1) := by decide +kernel
theorem dX11_rooms_21 : decode cX11_rooms 21 = .ok (.invokevirtual 111, 3) := by decide +kernel
theorem dX11_rooms_24 : decode cX11_rooms 24 = .ok (.ifCond .ne 5, 3) := by decide +kernel
theorem dX11_rooms_27 : decode cX11_rooms 27 = .ok (.iconst (-1), 1) := by decide +kernel
theorem dX11_rooms_28 : decode cX11_rooms 28 = .ok (.ireturn, 1) := by decide +kernel
theorem dX11_rooms_29 : decode cX11_rooms 29 = .ok (.aload_n 0, 1) := by decide +kernel
theorem dX11_rooms_30 : decode cX11_rooms 30 = .ok (.getfield 12, 3) := by decide +kernel
theorem dX11_rooms_33 : decode cX11_rooms 33 = .ok (.getfield 79, 3) := by decide +kernel
theorem dX11_rooms_36 : decode cX11_rooms 36 = .ok (.invokevirtual 326, 3) := by decide +kernel
theorem dX11_rooms_39 : decode cX11_rooms 39 = .ok (.istore_n 2, 1) := by decide +kernel
theorem dX11_rooms_40 : decode cX11_rooms 40 = .ok (.iload_n 1, 1) := by decide +kernel
theorem dX11_rooms_41 : decode cX11_rooms 41 = .ok (.ifCond .ne 7, 3) := by decide +kernel
theorem dX11_rooms_44 : decode cX11_rooms 44 = .ok (.iload_n 2, 1) := by decide +kernel
theorem dX11_rooms_45 : decode cX11_rooms 45 = .ok (.goto 18, 3) := by decide +kernel
theorem dX11_rooms_48 : decode cX11_rooms 48 = .ok (.aload_n 0, 1) := by decide +kernel
theorem dX11_rooms_49 : decode cX11_rooms 49 = .ok (.getfield 12, 3) := by decide +kernel
theorem dX11_rooms_52 : decode cX11_rooms 52 = .ok (.getfield 79, 3) := by decide +kernel
theorem dX11_rooms_55 : decode cX11_rooms 55 = .ok (.getfield 329, 3) := by decide +kernel
theorem dX11_rooms_58 : decode cX11_rooms 58 = .ok (.iload_n 1, 1) := by decide +kernel
theorem dX11_rooms_59 : decode cX11_rooms 59 = .ok (.bipush 10, 2) := by decide +kernel
theorem dX11_rooms_61 : decode cX11_rooms 61 = .ok (.isub, 1) := by decide +kernel
theorem dX11_rooms_62 : decode cX11_rooms 62 = .ok (.iaload, 1) := by decide +kernel
theorem dX11_rooms_63 : decode cX11_rooms 63 = .ok (.ireturn, 1) := by decide +kernel
theorem dX11_run_0 : decode cX11_run 0 = .ok (.iload_n 1, 1) := by decide +kernel
theorem dX11_run_1 : decode cX11_run 1 = .ok (.iconst 1, 1) := by decide +kernel
theorem dX11_run_2 : decode cX11_run 2 = .ok (.if_icmp .lt 31, 3) := by decide +kernel
theorem dX11_run_5 : decode cX11_run 5 = .ok (.iload_n 1, 1) := by decide +kernel
theorem dX11_run_6 : decode cX11_run 6 = .ok (.bipush 99, 2) := by decide +kernel
theorem dX11_run_8 : decode cX11_run 8 = .ok (.if_icmp .gt 25, 3) := by decide +kernel
theorem dX11_run_11 : decode cX11_run 11 = .ok (.iload_n 2, 1) := by decide +kernel
theorem dX11_run_12 : decode cX11_run 12 = .ok (.ifCond .lt 21, 3) := by decide +kernel
theorem dX11_run_15 : decode cX11_run 15 = .ok (.iload_n 2, 1) := by decide +kernel
theorem dX11_run_16 : decode cX11_run 16 = .ok (.iconst 3, 1) := by decide +kernel
theorem dX11_run_17 : decode cX11_run 17 = .ok (.if_icmp .gt 16, 3) := by decide +kernel
theorem dX11_run_20 : decode cX11_run 20 = .ok (.aload_n 0, 1) := by decide +kernel
theorem dX11_run_21 : decode cX11_run 21 = .ok (.getfield 12, 3) := by decide +kernel
theorem dX11_run_24 : decode cX11_run 24 = .ok (.getfield 79, 3) := by decide +kernel
theorem dX11_run_27 : decode cX11_run 27 = .ok (.getfield 89, 3) := by decide +kernel
theorem dX11_run_30 : decode cX11_run 30 = .ok (.ifCond .ne 5, 3) := by decide +kernel
theorem dX11_run_33 : decode cX11_run 33 = .ok (.iconst (-1), 1) := by decide +kernel
theorem dX11_run_34 : decode cX11_run 34 = .ok (.ireturn, 1) := by decide +kernel
theorem dX11_run_35 : decode cX11_run 35 = .ok (.aload_n 0, 1) := by decide +kernel
theorem dX11_run_36 : decode cX11_run 36 = .ok (.getfield 54, 3) := by decide +kernel
theorem dX11_run_39 : decode cX11_run 39 = .ok (.aload_n 0, 1) := by decide +kernel
theorem dX11_run_40 : decode cX11_run 40 = .ok (.getfield 12, 3) := by decide +kernel
theorem dX11_run_43 : decode cX11_run 43 = .ok (.getfield 69, 3) := by decide +kernel
theorem dX11_run_46 : decode cX11_run 46 = .ok (.invokevirtual 214, 3) := by decide +kernel
theorem dX11_run_49 : decode cX11_run 49 = .ok (.aload_n 0, 1) := by decide +kernel
theorem dX11_run_50 : decode cX11_run 50 = .ok (.getfield 54, 3) := by decide +kernel
theorem dX11_run_53 : decode cX11_run 53 = .ok (.getfield 290, 3) := by decide +kernel
theorem dX11_run_56 : decode cX11_run 56 = .ok (.istore_n 3, 1) := by decide +kernel
theorem dX11_run_57 : decode cX11_run 57 = .ok (.iconst 0, 1) := by decide +kernel
theorem dX11_run_58 : decode cX11_run 58 = .ok (.istore 4, 2) := by decide +kernel
theorem dX11_run_60 : decode cX11_run 60 = .ok (.iconst (-1), 1) := by decide +kernel
theorem dX11_run_61 : decode cX11_run 61 = .ok (.istore 5, 2) := by decide +kernel
theorem dX11_run_63 : decode cX11_run 63 = .ok (.iconst 0, 1) := by decide +kernel
theorem dX11_run_64 : decode cX11_run 64 = .ok (.istore 6, 2) := by decide +kernel
theorem dX11_run_66 : decode cX11_run 66 = .ok (.iload 6, 2) := by decide +kernel
theorem dX11_run_68 : decode cX11_run 68 = .ok (.iload_n 1, 1) := by decide +kernel
theorem dX11_run_69 : decode cX11_run 69 = .ok (.if_icmp .ge 49, 3) := by decide +kernel
theorem dX11_run_72 : decode cX11_run 72 = .ok (.aload_n 0, 1) := by decide +kernel
theorem dX11_run_73 : decode cX11_run 73 = .ok (.getfield 12, 3) := by decide +kernel
theorem dX11_run_76 : decode cX11_run 76 = .ok (.aload_n 0, 1) := by decide +kernel
theorem dX11_run_77 : decode cX11_run 77 = .ok (.getfield 54, 3) := by decide +kernel
theorem dX11_run_80 : decode cX11_run 80 = .ok (.iconst 0, 1) := by decide +kernel
theorem dX11_run_81 : decode cX11_run 81 = .ok (.invokevirtual 201, 3) := by decide +kernel
theorem dX11_run_84 : decode cX11_run 84 = .ok (.ifCond .ne 6, 3) := by decide +kernel
theorem dX11_run_87 : decode cX11_run 87 = .ok (.iinc 4 1, 3) := by decide +kernel
theorem dX11_run_90 : decode cX11_run 90 = .ok (.iload 5, 2) := by decide +kernel
theorem dX11_run_92 : decode cX11_run 92 = .ok (.iconst (-1), 1) := by decide +kernel
theorem dX11_run_93 : decode cX11_run 93 = .ok (.if_icmp .ne 19, 3) := by decide +kernel
theorem dX11_run_96 : decode cX11_run 96 = .ok (.aload_n 0, 1) := by decide +kernel
theorem dX11_run_97 : decode cX11_run 97 = .ok (.getfield 54, 3) := by decide +kernel
theorem dX11_run_100 : decode cX11_run 100 = .ok (.getfield 290, 3) := by decide +kernel
theorem dX11_run_103 : decode cX11_run 103 = .ok (.iload_n 3, 1) := by decide +kernel
theorem dX11_run_104 : decode cX11_run 104 = .ok (.iconst (-1), 1) := by decide +kernel
theorem dX11_run_105 : decode cX11_run 105 = .ok (.ixor, 1) := by decide +kernel
theorem dX11_run_106 : decode cX11_run 106 = .ok (.iand, 1) := by decide +kernel
theorem dX11_run_107 : decode cX11_run 107 = .ok (.invokestatic 301, 3) := by decide +kernel
theorem dX11_run_110 : decode cX11_run 110 = .ok (.istore 5, 2) := by decide +kernel
theorem dX11_run_112 : decode cX11_run 112 = .ok (.iinc 6 1, 3) := by decide +kernel
theorem dX11_run_115 : decode cX11_run 115 = .ok (.goto (-49), 3) := by decide +kernel
theorem dX11_run_118 : decode cX11_run 118 = .ok (.iload_n 2, 1) := by decide +kernel
theorem dX11_run_119 : decode cX11_run 119 = .ok (.tableswitch 48 0 2 #[25, 33, 36], 25) := by decide +kernel
theorem dX11_run_144 : decode cX11_run 144 = .ok (.aload_n 0, 1) := by decide +kernel
theorem dX11_run_145 : decode cX11_run 145 = .ok (.getfield 54, 3) := by decide +kernel
theorem dX11_run_148 : decode cX11_run 148 = .ok (.getfield 102, 3) := by decide +kernel
theorem dX11_run_151 : decode cX11_run 151 = .ok (.ireturn, 1) := by decide +kernel
theorem dX11_run_152 : decode cX11_run 152 = .ok (.iload 4, 2) := by decide +kernel
theorem dX11_run_154 : decode cX11_run 154 = .ok (.ireturn, 1) := by decide +kernel
theorem dX11_run_155 : decode cX11_run 155 = .ok (.aload_n 0, 1) := by decide +kernel
theorem dX11_run_156 : decode cX11_run 156 = .ok (.getfield 54, 3) := by decide +kernel
theorem dX11_run_159 : decode cX11_run 159 = .ok (.getfield 290, 3) := by decide +kernel
theorem dX11_run_162 : decode cX11_run 162 = .ok (.iload_n 3, 1) := by decide +kernel
theorem dX11_run_163 : decode cX11_run 163 = .ok (.iconst (-1), 1) := by decide +kernel
theorem dX11_run_164 : decode cX11_run 164 = .ok (.ixor, 1) := by decide +kernel
theorem dX11_run_165 : decode cX11_run 165 = .ok (.iand, 1) := by decide +kernel
theorem dX11_run_166 : decode cX11_run 166 = .ok (.ireturn, 1) := by decide +kernel
theorem dX11_run_167 : decode cX11_run 167 = .ok (.iload 5, 2) := by decide +kernel
theorem dX11_run_169 : decode cX11_run 169 = .ok (.ireturn, 1) := by decide +kernel
theorem dX11_sale_0 : decode cX11_sale 0 = .ok (.iload_n 1, 1) := by decide +kernel
theorem dX11_sale_1 : decode cX11_sale 1 = .ok (.ifCond .eq 10, 3) := by decide +kernel
theorem dX11_sale_4 : decode cX11_sale 4 = .ok (.iload_n 1, 1) := by decide +kernel
theorem dX11_sale_5 : decode cX11_sale 5 = .ok (.iconst 1, 1) := by decide +kernel
theorem dX11_sale_6 : decode cX11_sale 6 = .ok (.if_icmp .eq 5, 3) := by decide +kernel
theorem dX11_sale_9 : decode cX11_sale 9 = .ok (.iconst (-1), 1) := by decide +kernel
theorem dX11_sale_10 : decode cX11_sale 10 = .ok (.ireturn, 1) := by decide +kernel
theorem dX11_sale_11 : decode cX11_sale 11 = .ok (.aload_n 0, 1) := by decide +kernel
theorem dX11_sale_12 : decode cX11_sale 12 = .ok (.getfield 12, 3) := by decide +kernel
theorem dX11_sale_15 : decode cX11_sale 15 = .ok (.getfield 79, 3) := by decide +kernel
theorem dX11_sale_18 : decode cX11_sale 18 = .ok (.iconst (-1), 1) := by decide +kernel
theorem dX11_sale_19 : decode cX11_sale 19 = .ok (.invokevirtual 332, 3) := by decide +kernel
theorem dX11_sale_22 : decode cX11_sale 22 = .ok (.istore_n 2, 1) := by decide +kernel
theorem dX11_sale_23 : decode cX11_sale 23 = .ok (.iload_n 2, 1) := by decide +kernel
theorem dX11_sale_24 : decode cX11_sale 24 = .ok (.iconst (-1), 1) := by decide +kernel
theorem dX11_sale_25 : decode cX11_sale 25 = .ok (.if_icmp .eq 7, 3) := by decide +kernel
theorem dX11_sale_28 : decode cX11_sale 28 = .ok (.iload_n 1, 1) := by decide +kernel
theorem dX11_sale_29 : decode cX11_sale 29 = .ok (.ifCond .ne 5, 3) := by decide +kernel
theorem dX11_sale_32 : decode cX11_sale 32 = .ok (.iload_n 2, 1) := by decide +kernel
theorem dX11_sale_33 : decode cX11_sale 33 = .ok (.ireturn, 1) := by decide +kernel
theorem dX11_sale_34 : decode cX11_sale 34 = .ok (.aload_n 0, 1) := by decide +kernel
theorem dX11_sale_35 : decode cX11_sale 35 = .ok (.getfield 12, 3) := by decide +kernel
theorem dX11_sale_38 : decode cX11_sale 38 = .ok (.getfield 79, 3) := by decide +kernel
theorem dX11_sale_41 : decode cX11_sale 41 = .ok (.iload_n 2, 1) := by decide +kernel
theorem dX11_sale_42 : decode cX11_sale 42 = .ok (.invokevirtual 332, 3) := by decide +kernel
theorem dX11_sale_45 : decode cX11_sale 45 = .ok (.istore_n 3, 1) := by decide +kernel
theorem dX11_sale_46 : decode cX11_sale 46 = .ok (.iload_n 3, 1) := by decide +kernel
theorem dX11_sale_47 : decode cX11_sale 47 = .ok (.iconst (-1), 1) := by decide +kernel
theorem dX11_sale_48 : decode cX11_sale 48 = .ok (.if_icmp .ne 7, 3) := by decide +kernel
theorem dX11_sale_51 : decode cX11_sale 51 = .ok (.iconst 0, 1) := by decide +kernel
theorem dX11_sale_52 : decode cX11_sale 52 = .ok (.goto 15, 3) := by decide +kernel
theorem dX11_sale_55 : decode cX11_sale 55 = .ok (.aload_n 0, 1) := by decide +kernel
theorem dX11_sale_56 : decode cX11_sale 56 = .ok (.getfield 12, 3) := by decide +kernel
theorem dX11_sale_59 : decode cX11_sale 59 = .ok (.getfield 79, 3) := by decide +kernel
theorem dX11_sale_62 : decode cX11_sale 62 = .ok (.getfield 236, 3) := by decide +kernel
theorem dX11_sale_65 : decode cX11_sale 65 = .ok (.iload_n 3, 1) := by decide +kernel
theorem dX11_sale_66 : decode cX11_sale 66 = .ok (.iaload, 1) := by decide +kernel
theorem dX11_sale_67 : decode cX11_sale 67 = .ok (.ireturn, 1) := by decide +kernel
theorem dX11_set_0 : decode cX11_set 0 = .ok (.iload_n 1, 1) := by decide +kernel
theorem dX11_set_1 : decode cX11_set 1 = .ok (.ifCond .lt 19, 3) := by decide +kernel
theorem dX11_set_4 : decode cX11_set 4 = .ok (.iload_n 1, 1) := by decide +kernel
theorem dX11_set_5 : decode cX11_set 5 = .ok (.getstatic 105, 3) := by decide +kernel
theorem dX11_set_8 : decode cX11_set 8 = .ok (.arraylength, 1) := by decide +kernel
theorem dX11_set_9 : decode cX11_set 9 = .ok (.if_icmp .ge 11, 3) := by decide +kernel
theorem dX11_set_12 : decode cX11_set 12 = .ok (.iload_n 1, 1) := by decide +kernel
theorem dX11_set_13 : decode cX11_set 13 = .ok (.getstatic 108, 3) := by decide +kernel
theorem dX11_set_16 : decode cX11_set 16 = .ok (.arraylength, 1) := by decide +kernel
theorem dX11_set_17 : decode cX11_set 17 = .ok (.if_icmp .lt 5, 3) := by decide +kernel
theorem dX11_set_20 : decode cX11_set 20 = .ok (.iconst 0, 1) := by decide +kernel
theorem dX11_set_21 : decode cX11_set 21 = .ok (.ireturn, 1) := by decide +kernel
theorem dX11_set_22 : decode cX11_set 22 = .ok (.iload_n 3, 1) := by decide +kernel
theorem dX11_set_23 : decode cX11_set 23 = .ok (.getstatic 105, 3) := by decide +kernel
theorem dX11_set_26 : decode cX11_set 26 = .ok (.iload_n 1, 1) := by decide +kernel
theorem dX11_set_27 : decode cX11_set 27 = .ok (.iaload, 1) := by decide +kernel
theorem dX11_set_28 : decode cX11_set 28 = .ok (.if_icmp .lt 12, 3) := by decide +kernel
theorem dX11_set_31 : decode cX11_set 31 = .ok (.iload_n 3, 1) := by decide +kernel
theorem dX11_set_32 : decode cX11_set 32 = .ok (.getstatic 108, 3) := by decide +kernel
theorem dX11_set_35 : decode cX11_set 35 = .ok (.iload_n 1, 1) := by decide +kernel
theorem dX11_set_36 : decode cX11_set 36 = .ok (.iaload, 1) := by decide +kernel
theorem dX11_set_37 : decode cX11_set 37 = .ok (.if_icmp .le 5, 3) := by decide +kernel
theorem dX11_set_40 : decode cX11_set 40 = .ok (.iconst 0, 1) := by decide +kernel
theorem dX11_set_41 : decode cX11_set 41 = .ok (.ireturn, 1) := by decide +kernel
theorem dX11_set_42 : decode cX11_set 42 = .ok (.iload_n 1, 1) := by decide +kernel
theorem dX11_set_43 : decode cX11_set 43 = .ok (.iconst 5, 1) := by decide +kernel
theorem dX11_set_44 : decode cX11_set 44 = .ok (.if_icmp .ne 19, 3) := by decide +kernel
theorem dX11_set_47 : decode cX11_set 47 = .ok (.aload_n 0, 1) := by decide +kernel
theorem dX11_set_48 : decode cX11_set 48 = .ok (.getfield 12, 3) := by decide +kernel
theorem dX11_set_51 : decode cX11_set 51 = .ok (.getfield 79, 3) := by decide +kernel
theorem dX11_set_54 : decode cX11_set 54 = .ok (.iload_n 3, 1) := by decide +kernel
theorem dX11_set_55 : decode cX11_set 55 = .ok (.invokevirtual 111, 3) := by decide +kernel
theorem dX11_set_58 : decode cX11_set 58 = .ok (.ifCond .ne 5, 3) := by decide +kernel
theorem dX11_set_61 : decode cX11_set 61 = .ok (.iconst 0, 1) := by decide +kernel
theorem dX11_set_62 : decode cX11_set 62 = .ok (.ireturn, 1) := by decide +kernel
theorem dX11_set_63 : decode cX11_set 63 = .ok (.iload_n 1, 1) := by decide +kernel
theorem dX11_set_64 : decode cX11_set 64 = .ok (.iconst 5, 1) := by decide +kernel
theorem dX11_set_65 : decode cX11_set 65 = .ok (.if_icmp .le 19, 3) := by decide +kernel
theorem dX11_set_68 : decode cX11_set 68 = .ok (.aload_n 0, 1) := by decide +kernel
theorem dX11_set_69 : decode cX11_set 69 = .ok (.getfield 12, 3) := by decide +kernel
theorem dX11_set_72 : decode cX11_set 72 = .ok (.getfield 79, 3) := by decide +kernel
theorem dX11_set_75 : decode cX11_set 75 = .ok (.iload_n 2, 1) := by decide +kernel
theorem dX11_set_76 : decode cX11_set 76 = .ok (.invokevirtual 111, 3) := by decide +kernel
theorem dX11_set_79 : decode cX11_set 79 = .ok (.ifCond .ne 5, 3) := by decide +kernel
theorem dX11_set_82 : decode cX11_set 82 = .ok (.iconst 0, 1) := by decide +kernel
theorem dX11_set_83 : decode cX11_set 83 = .ok (.ireturn, 1) := by decide +kernel
theorem dX11_set_84 : decode cX11_set 84 = .ok (.iload_n 1, 1) := by decide +kernel
theorem dX11_set_85 : decode cX11_set 85 = .ok (.iconst 5, 1) := by decide +kernel
theorem dX11_set_86 : decode cX11_set 86 = .ok (.if_icmp .le 16, 3) := by decide +kernel
theorem dX11_set_89 : decode cX11_set 89 = .ok (.aload_n 0, 1) := by decide +kernel
theorem dX11_set_90 : decode cX11_set 90 = .ok (.getfield 12, 3) := by decide +kernel
theorem dX11_set_93 : decode cX11_set 93 = .ok (.iload_n 1, 1) := by decide +kernel
theorem dX11_set_94 : decode cX11_set 94 = .ok (.iload_n 2, 1) := by decide +kernel
theorem dX11_set_95 : decode cX11_set 95 = .ok (.iload_n 3, 1) := by decide +kernel
theorem dX11_set_96 : decode cX11_set 96 = .ok (.invokevirtual 114, 3) := by decide +kernel
theorem dX11_set_99 : decode cX11_set 99 = .ok (.goto 12, 3) := by decide +kernel
theorem dX11_set_102 : decode cX11_set 102 = .ok (.aload_n 0, 1) := by decide +kernel
theorem dX11_set_103 : decode cX11_set 103 = .ok (.getfield 12, 3) := by decide +kernel
theorem dX11_set_106 : decode cX11_set 106 = .ok (.iload_n 1, 1) := by decide +kernel
theorem dX11_set_107 : decode cX11_set 107 = .ok (.iload_n 3, 1) := by decide +kernel
theorem dX11_set_108 : decode cX11_set 108 = .ok (.invokevirtual 118, 3) := by decide +kernel
theorem dX11_set_111 : decode cX11_set 111 = .ok (.aload_n 0, 1) := by decide +kernel
theorem dX11_set_112 : decode cX11_set 112 = .ok (.invokevirtual 76, 3) := by decide +kernel
theorem dX11_set_115 : decode cX11_set 115 = .ok (.iconst 1, 1) := by decide +kernel
theorem dX11_set_116 : decode cX11_set 116 = .ok (.ireturn, 1) := by decide +kernel
theorem dX11_state_0 : decode cX11_state 0 = .ok (.aload_n 0, 1) := by decide +kernel
theorem dX11_state_1 : decode cX11_state 1 = .ok (.getfield 12, 3) := by decide +kernel
theorem dX11_state_4 : decode cX11_state 4 = .ok (.getfield 69, 3) := by decide +kernel
theorem dX11_state_7 : decode cX11_state 7 = .ok (.getfield 72, 3) := by decide +kernel
theorem dX11_state_10 : decode cX11_state 10 = .ok (.istore_n 2, 1) := by decide +kernel
theorem dX11_state_11 : decode cX11_state 11 = .ok (.aload_n 0, 1) := by decide +kernel
theorem dX11_state_12 : decode cX11_state 12 = .ok (.getfield 12, 3) := by decide +kernel
theorem dX11_state_15 : decode cX11_state 15 = .ok (.getfield 69, 3) := by decide +kernel
theorem dX11_state_18 : decode cX11_state 18 = .ok (.iload_n 1, 1) := by decide +kernel
theorem dX11_state_19 : decode cX11_state 19 = .ok (.putfield 72, 3) := by decide +kernel
theorem dX11_state_22 : decode cX11_state 22 = .ok (.aload_n 0, 1) := by decide +kernel
theorem dX11_state_23 : decode cX11_state 23 = .ok (.invokevirtual 76, 3) := by decide +kernel
theorem dX11_state_26 : decode cX11_state 26 = .ok (.iload_n 2, 1) := by decide +kernel
theorem dX11_state_27 : decode cX11_state 27 = .ok (.ireturn, 1) := by decide +kernel
theorem dX11_sure_0 : decode cX11_sure 0 = .ok (.aload_n 0, 1) := by decide +kernel
theorem dX11_sure_1 : decode cX11_sure 1 = .ok (.getfield 12, 3) := by decide +kernel
theorem dX11_sure_4 : decode cX11_sure 4 = .ok (.getfield 79, 3) := by decide +kernel
theorem dX11_sure_7 : decode cX11_sure 7 = .ok (.iload_n 1, 1) := by decide +kernel
theorem dX11_sure_8 : decode cX11_sure 8 = .ok (.invokevirtual 111, 3) := by decide +kernel
theorem dX11_sure_11 : decode cX11_sure 11 = .ok (.ifCond .eq 28, 3) := by decide +kernel
theorem dX11_sure_14 : decode cX11_sure 14 = .ok (.aload_n 0, 1) := by decide +kernel
theorem dX11_sure_15 : decode cX11_sure 15 = .ok (.getfield 12, 3) := by decide +kernel
theorem dX11_sure_18 : decode cX11_sure 18 = .ok (.getfield 79, 3) := by decide +kernel
theorem dX11_sure_21 : decode cX11_sure 21 = .ok (.iload_n 2, 1) := by decide +kernel
theorem dX11_sure_22 : decode cX11_sure 22 = .ok (.invokevirtual 111, 3) := by decide +kernel
theorem dX11_sure_25 : decode cX11_sure 25 = .ok (.ifCond .eq 14, 3) := by decide +kernel
theorem dX11_sure_28 : decode cX11_sure 28 = .ok (.iload_n 3, 1) := by decide +kernel
theorem dX11_sure_29 : decode cX11_sure 29 = .ok (.iconst 1, 1) := by decide +kernel
theorem dX11_sure_30 : decode cX11_sure 30 = .ok (.if_icmp .lt 9, 3) := by decide +kernel
theorem dX11_sure_33 : decode cX11_sure 33 = .ok (.iload_n 3, 1) := by decide +kernel
theorem dX11_sure_34 : decode cX11_sure 34 = .ok (.bipush 9, 2) := by decide +kernel
theorem dX11_sure_36 : decode cX11_sure 36 = .ok (.if_icmp .le 5, 3) := by decide +kernel
theorem dX11_sure_39 : decode cX11_sure 39 = .ok (.iconst (-1), 1) := by decide +kernel
theorem dX11_sure_40 : decode cX11_sure 40 = .ok (.ireturn, 1) := by decide +kernel
theorem dX11_sure_41 : decode cX11_sure 41 = .ok (.aload_n 0, 1) := by decide +kernel
theorem dX11_sure_42 : decode cX11_sure 42 = .ok (.getfield 12, 3) := by decide +kernel
theorem dX11_sure_45 : decode cX11_sure 45 = .ok (.iload_n 2, 1) := by decide +kernel
theorem dX11_sure_46 : decode cX11_sure 46 = .ok (.iload_n 3, 1) := by decide +kernel
theorem dX11_sure_47 : decode cX11_sure 47 = .ok (.invokevirtual 335, 3) := by decide +kernel
theorem dX11_sure_50 : decode cX11_sure 50 = .ok (.aload_n 0, 1) := by decide +kernel
theorem dX11_sure_51 : decode cX11_sure 51 = .ok (.getfield 12, 3) := by decide +kernel
theorem dX11_sure_54 : decode cX11_sure 54 = .ok (.getfield 338, 3) := by decide +kernel
theorem dX11_sure_57 : decode cX11_sure 57 = .ok (.iload_n 1, 1) := by decide +kernel
theorem dX11_sure_58 : decode cX11_sure 58 = .ok (.iaload, 1) := by decide +kernel
theorem dX11_sure_59 : decode cX11_sure 59 = .ok (.ireturn, 1) := by decide +kernel
theorem dX11_takeDraft_0 : decode cX11_takeDraft 0 = .ok (.iload_n 1, 1) := by decide +kernel
theorem dX11_takeDraft_1 : decode cX11_takeDraft 1 = .ok (.tableswitch 178 0 4 #[35, 57, 79, 105, 141], 35) := by decide +kernel
theorem dX11_takeDraft_36 : decode cX11_takeDraft 36 = .ok (.aload_n 0, 1) := by decide +kernel
theorem dX11_takeDraft_37 : decode cX11_takeDraft 37 = .ok (.getfield 12, 3) := by decide +kernel
theorem dX11_takeDraft_40 : decode cX11_takeDraft 40 = .ok (.getfield 152, 3) := by decide +kernel
theorem dX11_takeDraft_43 : decode cX11_takeDraft 43 = .ok (.aload_n 0, 1) := by decide +kernel
theorem dX11_takeDraft_44 : decode cX11_takeDraft 44 = .ok (.getfield 26, 3) := by decide +kernel
theorem dX11_takeDraft_47 : decode cX11_takeDraft 47 = .ok (.invokevirtual 155, 3) := by decide +kernel
theorem dX11_takeDraft_50 : decode cX11_takeDraft 50 = .ok (.aload_n 0, 1) := by decide +kernel
theorem dX11_takeDraft_51 : decode cX11_takeDraft 51 = .ok (.getfield 26, 3) := by decide +kernel
theorem dX11_takeDraft_54 : decode cX11_takeDraft 54 = .ok (.getfield 159, 3) := by decide +kernel
theorem dX11_takeDraft_57 : decode cX11_takeDraft 57 = .ok (.ireturn, 1) := by decide +kernel
theorem dX11_takeDraft_58 : decode cX11_takeDraft 58 = .ok (.aload_n 0, 1) := by decide +kernel
theorem dX11_takeDraft_59 : decode cX11_takeDraft 59 = .ok (.getfield 12, 3) := by decide +kernel
theorem dX11_takeDraft_62 : decode cX11_takeDraft 62 = .ok (.getfield 162, 3) := by decide +kernel
theorem dX11_takeDraft_65 : decode cX11_takeDraft 65 = .ok (.aload_n 0, 1) := by decide +kernel
theorem dX11_takeDraft_66 : decode cX11_takeDraft 66 = .ok (.getfield 26, 3) := by decide +kernel
theorem dX11_takeDraft_69 : decode cX11_takeDraft 69 = .ok (.invokevirtual 155, 3) := by decide +kernel
theorem dX11_takeDraft_72 : decode cX11_takeDraft 72 = .ok (.aload_n 0, 1) := by decide +kernel
theorem dX11_takeDraft_73 : decode cX11_takeDraft 73 = .ok (.getfield 26, 3) := by decide +kernel
theorem dX11_takeDraft_76 : decode cX11_takeDraft 76 = .ok (.getfield 159, 3) := by decide +kernel
theorem dX11_takeDraft_79 : decode cX11_takeDraft 79 = .ok (.ireturn, 1) := by decide +kernel
theorem dX11_takeDraft_80 : decode cX11_takeDraft 80 = .ok (.aload_n 0, 1) := by decide +kernel
theorem dX11_takeDraft_81 : decode cX11_takeDraft 81 = .ok (.getfield 12, 3) := by decide +kernel
theorem dX11_takeDraft_84 : decode cX11_takeDraft 84 = .ok (.getfield 165, 3) := by decide +kernel
theorem dX11_takeDraft_87 : decode cX11_takeDraft 87 = .ok (.aload_n 0, 1) := by decide +kernel
theorem dX11_takeDraft_88 : decode cX11_takeDraft 88 = .ok (.getfield 33, 3) := by decide +kernel
theorem dX11_takeDraft_91 : decode cX11_takeDraft 91 = .ok (.invokevirtual 168, 3) := by decide +kernel
theorem dX11_takeDraft_94 : decode cX11_takeDraft 94 = .ok (.aload_n 0, 1) := by decide +kernel
theorem dX11_takeDraft_95 : decode cX11_takeDraft 95 = .ok (.invokevirtual 76, 3) := by decide +kernel
theorem dX11_takeDraft_98 : decode cX11_takeDraft 98 = .ok (.aload_n 0, 1) := by decide +kernel
theorem dX11_takeDraft_99 : decode cX11_takeDraft 99 = .ok (.getfield 33, 3) := by decide +kernel
theorem dX11_takeDraft_102 : decode cX11_takeDraft 102 = .ok (.getfield 171, 3) := by decide +kernel
theorem dX11_takeDraft_105 : decode cX11_takeDraft 105 = .ok (.ireturn, 1) := by decide +kernel
theorem dX11_takeDraft_106 : decode cX11_takeDraft 106 = .ok (.aload_n 0, 1) := by decide +kernel
theorem dX11_takeDraft_107 : decode cX11_takeDraft 107 = .ok (.getfield 12, 3) := by decide +kernel
theorem dX11_takeDraft_110 : decode cX11_takeDraft 110 = .ok (.getfield 172, 3) := by decide +kernel
theorem dX11_takeDraft_113 : decode cX11_takeDraft 113 = .ok (.aload_n 0, 1) := by decide +kernel
theorem dX11_takeDraft_114 : decode cX11_takeDraft 114 = .ok (.getfield 40, 3) := by decide +kernel
theorem dX11_takeDraft_117 : decode cX11_takeDraft 117 = .ok (.invokevirtual 175, 3) := by decide +kernel
theorem dX11_takeDraft_120 : decode cX11_takeDraft 120 = .ok (.aload_n 0, 1) := by decide +kernel
theorem dX11_takeDraft_121 : decode cX11_takeDraft 121 = .ok (.getfield 12, 3) := by decide +kernel
theorem dX11_takeDraft_124 : decode cX11_takeDraft 124 = .ok (.getfield 69, 3) := by decide +kernel
theorem dX11_takeDraft_127 : decode cX11_takeDraft 127 = .ok (.invokevirtual 178, 3) := by decide +kernel
theorem dX11_takeDraft_130 : decode cX11_takeDraft 130 = .ok (.aload_n 0, 1) := by decide +kernel
theorem dX11_takeDraft_131 : decode cX11_takeDraft 131 = .ok (.invokevirtual 76, 3) := by decide +kernel
theorem dX11_takeDraft_134 : decode cX11_takeDraft 134 = .ok (.aload_n 0, 1) := by decide +kernel
theorem dX11_takeDraft_135 : decode cX11_takeDraft 135 = .ok (.getfield 40, 3) := by decide +kernel
theorem dX11_takeDraft_138 : decode cX11_takeDraft 138 = .ok (.getfield 181, 3) := by decide +kernel
theorem dX11_takeDraft_141 : decode cX11_takeDraft 141 = .ok (.ireturn, 1) := by decide +kernel
theorem dX11_takeDraft_142 : decode cX11_takeDraft 142 = .ok (.aload_n 0, 1) := by decide +kernel
theorem dX11_takeDraft_143 : decode cX11_takeDraft 143 = .ok (.getfield 12, 3) := by decide +kernel
theorem dX11_takeDraft_146 : decode cX11_takeDraft 146 = .ok (.getfield 182, 3) := by decide +kernel
theorem dX11_takeDraft_149 : decode cX11_takeDraft 149 = .ok (.aload_n 0, 1) := by decide +kernel
theorem dX11_takeDraft_150 : decode cX11_takeDraft 150 = .ok (.getfield 47, 3) := by decide +kernel
theorem dX11_takeDraft_153 : decode cX11_takeDraft 153 = .ok (.invokevirtual 185, 3) := by decide +kernel
theorem dX11_takeDraft_156 : decode cX11_takeDraft 156 = .ok (.aload_n 0, 1) := by decide +kernel
theorem dX11_takeDraft_157 : decode cX11_takeDraft 157 = .ok (.getfield 12, 3) := by decide +kernel
theorem dX11_takeDraft_160 : decode cX11_takeDraft 160 = .ok (.getfield 69, 3) := by decide +kernel
theorem dX11_takeDraft_163 : decode cX11_takeDraft 163 = .ok (.iconst 0, 1) := by decide +kernel
theorem dX11_takeDraft_164 : decode cX11_takeDraft 164 = .ok (.putfield 188, 3) := by decide +kernel
theorem dX11_takeDraft_167 : decode cX11_takeDraft 167 = .ok (.aload_n 0, 1) := by decide +kernel
theorem dX11_takeDraft_168 : decode cX11_takeDraft 168 = .ok (.invokevirtual 76, 3) := by decide +kernel
theorem dX11_takeDraft_171 : decode cX11_takeDraft 171 = .ok (.aload_n 0, 1) := by decide +kernel
theorem dX11_takeDraft_172 : decode cX11_takeDraft 172 = .ok (.getfield 47, 3) := by decide +kernel
theorem dX11_takeDraft_175 : decode cX11_takeDraft 175 = .ok (.getfield 191, 3) := by decide +kernel
theorem dX11_takeDraft_178 : decode cX11_takeDraft 178 = .ok (.ireturn, 1) := by decide +kernel
theorem dX11_takeDraft_179 : decode cX11_takeDraft 179 = .ok (.iconst (-1), 1) := by decide +kernel
theorem dX11_takeDraft_180 : decode cX11_takeDraft 180 = .ok (.ireturn, 1) := by decide +kernel
theorem dX11_text_0 : decode cX11_text 0 = .ok (.aload_n 0, 1) := by decide +kernel
theorem dX11_text_1 : decode cX11_text 1 = .ok (.getfield 12, 3) := by decide +kernel
theorem dX11_text_4 : decode cX11_text 4 = .ok (.getfield 79, 3) := by decide +kernel
theorem dX11_text_7 : decode cX11_text 7 = .ok (.getfield 89, 3) := by decide +kernel
theorem dX11_text_10 : decode cX11_text 10 = .ok (.istore_n 2, 1) := by decide +kernel
theorem dX11_text_11 : decode cX11_text 11 = .ok (.aload_n 0, 1) := by decide +kernel
theorem dX11_text_12 : decode cX11_text 12 = .ok (.getfield 19, 3) := by decide +kernel
theorem dX11_text_15 : decode cX11_text 15 = .ok (.iload_n 1, 1) := by decide +kernel
theorem dX11_text_16 : decode cX11_text 16 = .ok (.invokevirtual 133, 3) := by decide +kernel
theorem dX11_text_19 : decode cX11_text 19 = .ok (.iload_n 1, 1) := by decide +kernel
theorem dX11_text_20 : decode cX11_text 20 = .ok (.tableswitch 95 0 4 #[36, 36, 50, 65, 80], 36) := by decide +kernel
theorem dX11_text_56 : decode cX11_text 56 = .ok (.aload_n 0, 1) := by decide +kernel
theorem dX11_text_57 : decode cX11_text 57 = .ok (.getfield 26, 3) := by decide +kernel
theorem dX11_text_60 : decode cX11_text 60 = .ok (.aload_n 0, 1) := by decide +kernel
theorem dX11_text_61 : decode cX11_text 61 = .ok (.getfield 19, 3) := by decide +kernel
theorem dX11_text_64 : decode cX11_text 64 = .ok (.invokevirtual 136, 3) := by decide +kernel
theorem dX11_text_67 : decode cX11_text 67 = .ok (.goto 48, 3) := by decide +kernel
theorem dX11_text_70 : decode cX11_text 70 = .ok (.aload_n 0, 1) := by decide +kernel
theorem dX11_text_71 : decode cX11_text 71 = .ok (.getfield 33, 3) := by decide +kernel
theorem dX11_text_74 : decode cX11_text 74 = .ok (.aload_n 0, 1) := by decide +kernel
theorem dX11_text_75 : decode cX11_text 75 = .ok (.getfield 19, 3) := by decide +kernel
theorem dX11_text_78 : decode cX11_text 78 = .ok (.iload_n 2, 1) := by decide +kernel
theorem dX11_text_79 : decode cX11_text 79 = .ok (.invokevirtual 140, 3) := by decide +kernel
theorem dX11_text_82 : decode cX11_text 82 = .ok (.goto 33, 3) := by decide +kernel
theorem dX11_text_85 : decode cX11_text 85 = .ok (.aload_n 0, 1) := by decide +kernel
theorem dX11_text_86 : decode cX11_text 86 = .ok (.getfield 40, 3) := by decide +kernel
theorem dX11_text_89 : decode cX11_text 89 = .ok (.aload_n 0, 1) := by decide +kernel
theorem dX11_text_90 : decode cX11_text 90 = .ok (.getfield 19, 3) := by decide +kernel
theorem dX11_text_93 : decode cX11_text 93 = .ok (.iload_n 2, 1) := by decide +kernel
theorem dX11_text_94 : decode cX11_text 94 = .ok (.invokevirtual 143, 3) := by decide +kernel
theorem dX11_text_97 : decode cX11_text 97 = .ok (.goto 18, 3) := by decide +kernel
theorem dX11_text_100 : decode cX11_text 100 = .ok (.aload_n 0, 1) := by decide +kernel
theorem dX11_text_101 : decode cX11_text 101 = .ok (.getfield 47, 3) := by decide +kernel
theorem dX11_text_104 : decode cX11_text 104 = .ok (.aload_n 0, 1) := by decide +kernel
theorem dX11_text_105 : decode cX11_text 105 = .ok (.getfield 19, 3) := by decide +kernel
theorem dX11_text_108 : decode cX11_text 108 = .ok (.iload_n 2, 1) := by decide +kernel
theorem dX11_text_109 : decode cX11_text 109 = .ok (.invokevirtual 144, 3) := by decide +kernel
theorem dX11_text_112 : decode cX11_text 112 = .ok (.goto 3, 3) := by decide +kernel
theorem dX11_text_115 : decode cX11_text 115 = .ok (.aload_n 0, 1) := by decide +kernel
theorem dX11_text_116 : decode cX11_text 116 = .ok (.getfield 19, 3) := by decide +kernel
theorem dX11_text_119 : decode cX11_text 119 = .ok (.iconst 0, 1) := by decide +kernel
theorem dX11_text_120 : decode cX11_text 120 = .ok (.putfield 126, 3) := by decide +kernel
theorem dX11_text_123 : decode cX11_text 123 = .ok (.aload_n 0, 1) := by decide +kernel
theorem dX11_text_124 : decode cX11_text 124 = .ok (.getfield 19, 3) := by decide +kernel
theorem dX11_text_127 : decode cX11_text 127 = .ok (.getfield 145, 3) := by decide +kernel
theorem dX11_text_130 : decode cX11_text 130 = .ok (.ifCond .ne 11, 3) := by decide +kernel
theorem dX11_text_133 : decode cX11_text 133 = .ok (.aload_n 0, 1) := by decide +kernel
theorem dX11_text_134 : decode cX11_text 134 = .ok (.iload_n 1, 1) := by decide +kernel
theorem dX11_text_135 : decode cX11_text 135 = .ok (.invokevirtual 148, 3) := by decide +kernel
theorem dX11_text_138 : decode cX11_text 138 = .ok (.goto 4, 3) := by decide +kernel
theorem dX11_text_141 : decode cX11_text 141 = .ok (.iconst (-1), 1) := by decide +kernel
theorem dX11_text_142 : decode cX11_text 142 = .ok (.ireturn, 1) := by decide +kernel
theorem dX11_undo_0 : decode cX11_undo 0 = .ok (.aload_n 0, 1) := by decide +kernel
theorem dX11_undo_1 : decode cX11_undo 1 = .ok (.getfield 211, 3) := by decide +kernel
theorem dX11_undo_4 : decode cX11_undo 4 = .ok (.ifCond .gt 5, 3) := by decide +kernel
theorem dX11_undo_7 : decode cX11_undo 7 = .ok (.iconst 0, 1) := by decide +kernel
theorem dX11_undo_8 : decode cX11_undo 8 = .ok (.ireturn, 1) := by decide +kernel
theorem dX11_undo_9 : decode cX11_undo 9 = .ok (.aload_n 0, 1) := by decide +kernel
theorem dX11_undo_10 : decode cX11_undo 10 = .ok (.dup, 1) := by decide +kernel
theorem dX11_undo_11 : decode cX11_undo 11 = .ok (.getfield 211, 3) := by decide +kernel
theorem dX11_undo_14 : decode cX11_undo 14 = .ok (.iconst 1, 1) := by decide +kernel
theorem dX11_undo_15 : decode cX11_undo 15 = .ok (.isub, 1) := by decide +kernel
theorem dX11_undo_16 : decode cX11_undo 16 = .ok (.putfield 211, 3) := by decide +kernel
theorem dX11_undo_19 : decode cX11_undo 19 = .ok (.aload_n 0, 1) := by decide +kernel
theorem dX11_undo_20 : decode cX11_undo 20 = .ok (.getfield 65, 3) := by decide +kernel
theorem dX11_undo_23 : decode cX11_undo 23 = .ok (.aload_n 0, 1) := by decide +kernel
theorem dX11_undo_24 : decode cX11_undo 24 = .ok (.getfield 208, 3) := by decide +kernel
theorem dX11_undo_27 : decode cX11_undo 27 = .ok (.aload_n 0, 1) := by decide +kernel
theorem dX11_undo_28 : decode cX11_undo 28 = .ok (.getfield 211, 3) := by decide +kernel
theorem dX11_undo_31 : decode cX11_undo 31 = .ok (.iadd, 1) := by decide +kernel
theorem dX11_undo_32 : decode cX11_undo 32 = .ok (.bipush 6, 2) := by decide +kernel
theorem dX11_undo_34 : decode cX11_undo 34 = .ok (.irem, 1) := by decide +kernel
theorem dX11_undo_35 : decode cX11_undo 35 = .ok (.aaload, 1) := by decide +kernel
theorem dX11_undo_36 : decode cX11_undo 36 = .ok (.astore_n 1, 1) := by decide +kernel
theorem dX11_undo_37 : decode cX11_undo 37 = .ok (.aload_n 1, 1) := by decide +kernel
theorem dX11_undo_38 : decode cX11_undo 38 = .ok (.ifnull 14, 3) := by decide +kernel
theorem dX11_undo_41 : decode cX11_undo 41 = .ok (.aload_n 0, 1) := by decide +kernel
theorem dX11_undo_42 : decode cX11_undo 42 = .ok (.getfield 12, 3) := by decide +kernel
theorem dX11_undo_45 : decode cX11_undo 45 = .ok (.getfield 69, 3) := by decide +kernel
theorem dX11_undo_48 : decode cX11_undo 48 = .ok (.aload_n 1, 1) := by decide +kernel
theorem dX11_undo_49 : decode cX11_undo 49 = .ok (.invokevirtual 214, 3) := by decide +kernel
theorem dX11_undo_52 : decode cX11_undo 52 = .ok (.aload_n 0, 1) := by decide +kernel
theorem dX11_undo_53 : decode cX11_undo 53 = .ok (.invokevirtual 205, 3) := by decide +kernel
theorem dX11_undo_56 : decode cX11_undo 56 = .ok (.iconst 1, 1) := by decide +kernel
theorem dX11_undo_57 : decode cX11_undo 57 = .ok (.ireturn, 1) := by decide +kernel
theorem dX11_ways_0 : decode cX11_ways 0 = .ok (.iload_n 1, 1) := by decide +kernel
theorem dX11_ways_1 : decode cX11_ways 1 = .ok (.iconst 1, 1) := by decide +kernel
theorem dX11_ways_2 : decode cX11_ways 2 = .ok (.if_icmp .lt 9, 3) := by decide +kernel
theorem dX11_ways_5 : decode cX11_ways 5 = .ok (.iload_n 1, 1) := by decide +kernel
theorem dX11_ways_6 : decode cX11_ways 6 = .ok (.bipush 10, 2) := by decide +kernel
theorem dX11_ways_8 : decode cX11_ways 8 = .ok (.if_icmp .le 7, 3) := by decide +kernel
theorem dX11_ways_11 : decode cX11_ways 11 = .ok (.ldc2_w 356, 3) := by decide +kernel
theorem dX11_ways_14 : decode cX11_ways 14 = .ok (.lreturn, 1) := by decide +kernel
theorem dX11_ways_15 : decode cX11_ways 15 = .ok (.aload_n 0, 1) := by decide +kernel
theorem dX11_ways_16 : decode cX11_ways 16 = .ok (.getfield 61, 3) := by decide +kernel
theorem dX11_ways_19 : decode cX11_ways 19 = .ok (.aload_n 0, 1) := by decide +kernel
theorem dX11_ways_20 : decode cX11_ways 20 = .ok (.getfield 12, 3) := by decide +kernel
theorem dX11_ways_23 : decode cX11_ways 23 = .ok (.iload_n 1, 1) := by decide +kernel
theorem dX11_ways_24 : decode cX11_ways 24 = .ok (.invokevirtual 358, 3) := by decide +kernel
theorem dX11_ways_27 : decode cX11_ways 27 = .ok (.lreturn, 1) := by decide +kernel
theorem q_0 : Cond.selects RX11 yX11_forgetNights yX11_forgetNights ∈ GW := inG 0 (by decide +kernel) (by decide +kernel)
theorem q_1 : Cond.selects RX11 yX11_forgetPlan yX11_forgetPlan ∈ GW := inG 1 (by decide +kernel) (by decide +kernel)
theorem q_1000 : Cond.instanceMethod yX4_take ∈ GW := inG 1000 (by decide +kernel) (by decide +kernel)
theorem q_1001 : Cond.selects RX4 yX4_take yX4_take ∈ GW := inG 1001 (by decide +kernel) (by decide +kernel)
theorem q_1002 : Cond.code yX4_take cX4_take 2 none ∈ GW := inG 1002 (by decide +kernel) (by decide +kernel)
theorem q_1004 : Cond.methodLink RX11 201 yX10_passNight ∈ GW := inG 1004 (by decide +kernel) (by decide +kernel)
theorem q_1005 : Cond.instanceMethod yX10_passNight ∈ GW := inG 1005 (by decide +kernel) (by decide +kernel)
theorem q_1006 : Cond.selects RX10 yX10_passNight yX10_passNight ∈ GW := inG 1006 (by decide +kernel) (by decide +kernel)
theorem q_1007 : Cond.code yX10_passNight cX10_passNight 8 (some .boolean) ∈ GW := inG 1007 (by decide +kernel) (by decide +kernel)
theorem q_1104 : Cond.constant RX11 226 (-1000000) ∈ GW := inG 1104 (by decide +kernel) (by decide +kernel)
theorem q_1105 : Cond.methodLink RX11 242 yX10_turnsOf ∈ GW := inG 1105 (by decide +kernel) (by decide +kernel)
theorem q_1106 : Cond.methodLink RX11 246 yX10_burningOf ∈ GW := inG 1106 (by decide +kernel) (by decide +kernel)
theorem q_1107 : Cond.methodLink RX11 252 yX10_reachedSet ∈ GW := inG 1107 (by decide +kernel) (by decide +kernel)
theorem q_1111 : Cond.methodLink RX11 258 yX1_enviedBy ∈ GW := inG 1111 (by decide +kernel) (by decide +kernel)
theorem q_1112 : Cond.instanceMethod yX1_enviedBy ∈ GW := inG 1112 (by decide +kernel) (by decide +kernel)
theorem q_1113 : Cond.selects RX1 yX1_enviedBy yX1_enviedBy ∈ GW := inG 1113 (by decide +kernel) (by decide +kernel)
theorem q_1114 : Cond.code yX1_enviedBy cX1_enviedBy 6 (some .int) ∈ GW := inG 1114 (by decide +kernel) (by decide +kernel)
theorem q_1115 : Cond.methodLink RX11 262 yX1_seenBy ∈ GW := inG 1115 (by decide +kernel) (by decide +kernel)
theorem q_1116 : Cond.instanceMethod yX1_seenBy ∈ GW := inG 1116 (by decide +kernel) (by decide +kernel)
theorem q_1117 : Cond.selects RX1 yX1_seenBy yX1_seenBy ∈ GW := inG 1117 (by decide +kernel) (by decide +kernel)
theorem q_1118 : Cond.code yX1_seenBy cX1_seenBy 4 (some .int) ∈ GW := inG 1118 (by decide +kernel) (by decide +kernel)
theorem q_1133 : Cond.methodLink RX11 268 yX5_apart ∈ GW := inG 1133 (by decide +kernel) (by decide +kernel)
theorem q_1138 : Cond.methodLink RX11 293 yX3_isOpen ∈ GW := inG 1138 (by decide +kernel) (by decide +kernel)
theorem q_1147 : Cond.methodLink RX11 301 yX11_least ∈ GW := inG 1147 (by decide +kernel) (by decide +kernel)
theorem q_1148 : Cond.static yX11_least ∈ GW := inG 1148 (by decide +kernel) (by decide +kernel)
theorem q_1149 : Cond.code yX11_least cX11_least 2 (some .int) ∈ GW := inG 1149 (by decide +kernel) (by decide +kernel)
theorem q_1161 : Cond.fieldLink RX11 221 "LampRound$Planner" "planned" "I" ∈ GW := inG 1161 (by decide +kernel) (by decide +kernel)
theorem q_1163 : Cond.fieldLink RX11 309 "LampRound$Planner" "mostWorth" "I" ∈ GW := inG 1163 (by decide +kernel) (by decide +kernel)
theorem q_1193 : Cond.methodLink RX11 305 yX6_search ∈ GW := inG 1193 (by decide +kernel) (by decide +kernel)
theorem q_1194 : Cond.instanceMethod yX6_search ∈ GW := inG 1194 (by decide +kernel) (by decide +kernel)
theorem q_1195 : Cond.selects RX6 yX6_search yX6_search ∈ GW := inG 1195 (by decide +kernel) (by decide +kernel)
theorem q_1196 : Cond.code yX6_search cX6_search 8 none ∈ GW := inG 1196 (by decide +kernel) (by decide +kernel)
theorem q_1238 : Cond.methodLink RX11 312 yX6_way ∈ GW := inG 1238 (by decide +kernel) (by decide +kernel)
theorem q_1239 : Cond.instanceMethod yX6_way ∈ GW := inG 1239 (by decide +kernel) (by decide +kernel)
theorem q_1240 : Cond.selects RX6 yX6_way yX6_way ∈ GW := inG 1240 (by decide +kernel) (by decide +kernel)
theorem q_1241 : Cond.code yX6_way cX6_way 1 (some .int) ∈ GW := inG 1241 (by decide +kernel) (by decide +kernel)
theorem q_1242 : Cond.methodLink RX11 316 yX6_stop ∈ GW := inG 1242 (by decide +kernel) (by decide +kernel)
theorem q_1243 : Cond.instanceMethod yX6_stop ∈ GW := inG 1243 (by decide +kernel) (by decide +kernel)
theorem q_1244 : Cond.selects RX6 yX6_stop yX6_stop ∈ GW := inG 1244 (by decide +kernel) (by decide +kernel)
theorem q_1245 : Cond.code yX6_stop cX6_stop 2 (some .int) ∈ GW := inG 1245 (by decide +kernel) (by decide +kernel)
theorem q_1250 : Cond.methodLink RX11 319 yX1_canMend ∈ GW := inG 1250 (by decide +kernel) (by decide +kernel)
theorem q_1251 : Cond.instanceMethod yX1_canMend ∈ GW := inG 1251 (by decide +kernel) (by decide +kernel)
theorem q_1252 : Cond.selects RX1 yX1_canMend yX1_canMend ∈ GW := inG 1252 (by decide +kernel) (by decide +kernel)
theorem q_1253 : Cond.code yX1_canMend cX1_canMend 7 (some .boolean) ∈ GW := inG 1253 (by decide +kernel) (by decide +kernel)
theorem q_1264 : Cond.methodLink RX11 326 yX1_pairUp ∈ GW := inG 1264 (by decide +kernel) (by decide +kernel)
theorem q_1265 : Cond.instanceMethod yX1_pairUp ∈ GW := inG 1265 (by decide +kernel) (by decide +kernel)
theorem q_1266 : Cond.selects RX1 yX1_pairUp yX1_pairUp ∈ GW := inG 1266 (by decide +kernel) (by decide +kernel)
theorem q_1267 : Cond.code yX1_pairUp cX1_pairUp 4 (some .int) ∈ GW := inG 1267 (by decide +kernel) (by decide +kernel)
theorem q_1292 : Cond.methodLink RX11 332 yX1_highestBid ∈ GW := inG 1292 (by decide +kernel) (by decide +kernel)
theorem q_1293 : Cond.instanceMethod yX1_highestBid ∈ GW := inG 1293 (by decide +kernel) (by decide +kernel)
theorem q_1294 : Cond.selects RX1 yX1_highestBid yX1_highestBid ∈ GW := inG 1294 (by decide +kernel) (by decide +kernel)
theorem q_1295 : Cond.code yX1_highestBid cX1_highestBid 5 (some .int) ∈ GW := inG 1295 (by decide +kernel) (by decide +kernel)
theorem q_1304 : Cond.methodLink RX11 335 yX10_weighReaching ∈ GW := inG 1304 (by decide +kernel) (by decide +kernel)
theorem q_1305 : Cond.instanceMethod yX10_weighReaching ∈ GW := inG 1305 (by decide +kernel) (by decide +kernel)
theorem q_1306 : Cond.selects RX10 yX10_weighReaching yX10_weighReaching ∈ GW := inG 1306 (by decide +kernel) (by decide +kernel)
theorem q_1307 : Cond.code yX10_weighReaching cX10_weighReaching 5 none ∈ GW := inG 1307 (by decide +kernel) (by decide +kernel)
theorem q_1322 : Cond.methodLink RX11 348 yX1_all ∈ GW := inG 1322 (by decide +kernel) (by decide +kernel)
theorem q_1327 : Cond.constantLong RX11 356 (-1) ∈ GW := inG 1327 (by decide +kernel) (by decide +kernel)
theorem q_1328 : Cond.methodLink RX11 358 yX9_follow ∈ GW := inG 1328 (by decide +kernel) (by decide +kernel)
theorem q_1329 : Cond.instanceMethod yX9_follow ∈ GW := inG 1329 (by decide +kernel) (by decide +kernel)
theorem q_1330 : Cond.selects RX9 yX9_follow yX9_follow ∈ GW := inG 1330 (by decide +kernel) (by decide +kernel)
theorem q_1331 : Cond.code yX9_follow cX9_follow 7 (some .long) ∈ GW := inG 1331 (by decide +kernel) (by decide +kernel)
theorem q_1346 : Cond.methodLink RX11 362 yX9_through ∈ GW := inG 1346 (by decide +kernel) (by decide +kernel)
theorem q_1354 : Cond.methodLink RX11 366 yX9_question ∈ GW := inG 1354 (by decide +kernel) (by decide +kernel)
theorem q_1355 : Cond.instanceMethod yX9_question ∈ GW := inG 1355 (by decide +kernel) (by decide +kernel)
theorem q_1356 : Cond.selects RX9 yX9_question yX9_question ∈ GW := inG 1356 (by decide +kernel) (by decide +kernel)
theorem q_1357 : Cond.code yX9_question cX9_question 14 (some .int) ∈ GW := inG 1357 (by decide +kernel) (by decide +kernel)
theorem q_1370 : Cond.methodLink RX11 373 yX10_take ∈ GW := inG 1370 (by decide +kernel) (by decide +kernel)
theorem q_1371 : Cond.instanceMethod yX10_take ∈ GW := inG 1371 (by decide +kernel) (by decide +kernel)
theorem q_1372 : Cond.selects RX10 yX10_take yX10_take ∈ GW := inG 1372 (by decide +kernel) (by decide +kernel)
theorem q_1373 : Cond.code yX10_take cX10_take 2 none ∈ GW := inG 1373 (by decide +kernel) (by decide +kernel)
theorem q_1374 : Cond.methodLink RX10 86 yX4_take ∈ GW := inG 1374 (by decide +kernel) (by decide +kernel)
theorem q_1375 : Cond.methodLink RX10 90 yX1_take ∈ GW := inG 1375 (by decide +kernel) (by decide +kernel)
theorem q_1376 : Cond.instanceMethod yX1_take ∈ GW := inG 1376 (by decide +kernel) (by decide +kernel)
theorem q_1377 : Cond.selects RX1 yX1_take yX1_take ∈ GW := inG 1377 (by decide +kernel) (by decide +kernel)
theorem q_1378 : Cond.code yX1_take cX1_take 2 none ∈ GW := inG 1378 (by decide +kernel) (by decide +kernel)
theorem q_1379 : Cond.methodLink RX10 93 yX5_take ∈ GW := inG 1379 (by decide +kernel) (by decide +kernel)
theorem q_1380 : Cond.methodLink RX10 96 yX3_take ∈ GW := inG 1380 (by decide +kernel) (by decide +kernel)
theorem q_1381 : Cond.methodLink RX10 99 yX2_take ∈ GW := inG 1381 (by decide +kernel) (by decide +kernel)
theorem q_1382 : Cond.methodLink RX10 102 yX7_take ∈ GW := inG 1382 (by decide +kernel) (by decide +kernel)
theorem q_1383 : Cond.methodLink RX10 105 yX0_take ∈ GW := inG 1383 (by decide +kernel) (by decide +kernel)
theorem q_1384 : Cond.instanceMethod yX0_take ∈ GW := inG 1384 (by decide +kernel) (by decide +kernel)
theorem q_1385 : Cond.selects RX0 yX0_take yX0_take ∈ GW := inG 1385 (by decide +kernel) (by decide +kernel)
theorem q_1386 : Cond.code yX0_take cX0_take 2 none ∈ GW := inG 1386 (by decide +kernel) (by decide +kernel)
theorem q_151 : Cond.initialized RX11 ∈ GW := inG 151 (by decide +kernel) (by decide +kernel)
theorem q_18 : Cond.selects RX11 yX11_takeDraft yX11_takeDraft ∈ GW := inG 18 (by decide +kernel) (by decide +kernel)
theorem q_19 : Cond.selects RX11 yX11_keepNight yX11_keepNight ∈ GW := inG 19 (by decide +kernel) (by decide +kernel)
theorem q_192 : Cond.fieldLink RX11 99 "LampRound$Now" "oil" "[I" ∈ GW := inG 192 (by decide +kernel) (by decide +kernel)
theorem q_196 : Cond.fieldLink RX11 227 "LampRound$Now" "owed" "[I" ∈ GW := inG 196 (by decide +kernel) (by decide +kernel)
theorem q_199 : Cond.fieldLink RX11 230 "LampRound$Now" "had" "[I" ∈ GW := inG 199 (by decide +kernel) (by decide +kernel)
theorem q_202 : Cond.fieldLink RX11 233 "LampRound$Now" "last" "[I" ∈ GW := inG 202 (by decide +kernel) (by decide +kernel)
theorem q_207 : Cond.fieldLink RX11 287 "LampRound$Now" "done" "[I" ∈ GW := inG 207 (by decide +kernel) (by decide +kernel)
theorem q_212 : Cond.fieldLink RX11 290 "LampRound$Now" "spoilt" "I" ∈ GW := inG 212 (by decide +kernel) (by decide +kernel)
theorem q_216 : Cond.fieldLink RX11 102 "LampRound$Now" "lamp" "I" ∈ GW := inG 216 (by decide +kernel) (by decide +kernel)
theorem q_221 : Cond.fieldLink RX11 195 "LampRound$Now" "night" "I" ∈ GW := inG 221 (by decide +kernel) (by decide +kernel)
theorem q_225 : Cond.fieldLink RX11 265 "LampRound$Now" "snow" "I" ∈ GW := inG 225 (by decide +kernel) (by decide +kernel)
theorem q_226 : Cond.fieldLink RX11 72 "LampRound$Now" "draws" "I" ∈ GW := inG 226 (by decide +kernel) (by decide +kernel)
theorem q_229 : Cond.fieldLink RX11 188 "LampRound$Now" "gone" "I" ∈ GW := inG 229 (by decide +kernel) (by decide +kernel)
theorem q_233 : Cond.fieldLink RX11 297 "LampRound$Now" "lines" "I" ∈ GW := inG 233 (by decide +kernel) (by decide +kernel)
theorem q_267 : Cond.fieldLink RX11 92 "LampRound$Houses" "place" "[I" ∈ GW := inG 267 (by decide +kernel) (by decide +kernel)
theorem q_269 : Cond.fieldLink RX11 96 "LampRound$Houses" "people" "[I" ∈ GW := inG 269 (by decide +kernel) (by decide +kernel)
theorem q_273 : Cond.fieldLink RX11 236 "LampRound$Houses" "bid" "[I" ∈ GW := inG 273 (by decide +kernel) (by decide +kernel)
theorem q_276 : Cond.fieldLink RX11 239 "LampRound$Houses" "says" "[I" ∈ GW := inG 276 (by decide +kernel) (by decide +kernel)
theorem q_278 : Cond.fieldLink RX11 249 "LampRound$Houses" "friendSet" "[I" ∈ GW := inG 278 (by decide +kernel) (by decide +kernel)
theorem q_282 : Cond.fieldLink RX11 89 "LampRound$Houses" "count" "I" ∈ GW := inG 282 (by decide +kernel) (by decide +kernel)
theorem q_285 : Cond.fieldLink RX11 323 "LampRound$Houses" "mended" "[I" ∈ GW := inG 285 (by decide +kernel) (by decide +kernel)
theorem q_287 : Cond.fieldLink RX11 329 "LampRound$Houses" "partner" "[I" ∈ GW := inG 287 (by decide +kernel) (by decide +kernel)
theorem q_319 : Cond.fieldLink RX11 171 "LampRound$Paths" "count" "I" ∈ GW := inG 319 (by decide +kernel) (by decide +kernel)
theorem q_346 : Cond.fieldLink RX11 272 "LampRound$Needs" "kind" "[I" ∈ GW := inG 346 (by decide +kernel) (by decide +kernel)
theorem q_350 : Cond.fieldLink RX11 275 "LampRound$Needs" "at" "[I" ∈ GW := inG 350 (by decide +kernel) (by decide +kernel)
theorem q_353 : Cond.fieldLink RX11 278 "LampRound$Needs" "from" "[I" ∈ GW := inG 353 (by decide +kernel) (by decide +kernel)
theorem q_357 : Cond.fieldLink RX11 281 "LampRound$Needs" "to" "[I" ∈ GW := inG 357 (by decide +kernel) (by decide +kernel)
theorem q_360 : Cond.fieldLink RX11 284 "LampRound$Needs" "worth" "[I" ∈ GW := inG 360 (by decide +kernel) (by decide +kernel)
theorem q_363 : Cond.fieldLink RX11 181 "LampRound$Needs" "count" "I" ∈ GW := inG 363 (by decide +kernel) (by decide +kernel)
theorem q_388 : Cond.fieldLink RX11 159 "LampRound$Law" "lines" "I" ∈ GW := inG 388 (by decide +kernel) (by decide +kernel)
theorem q_422 : Cond.fieldLink RX11 191 "LampRound$Round" "size" "I" ∈ GW := inG 422 (by decide +kernel) (by decide +kernel)
theorem q_445 : Cond.fieldLink RX11 351 "LampRound$Clues" "night" "[I" ∈ GW := inG 445 (by decide +kernel) (by decide +kernel)
theorem q_447 : Cond.fieldLink RX11 353 "LampRound$Clues" "set" "[I" ∈ GW := inG 447 (by decide +kernel) (by decide +kernel)
theorem q_449 : Cond.fieldLink RX11 345 "LampRound$Clues" "count" "I" ∈ GW := inG 449 (by decide +kernel) (by decide +kernel)
theorem q_458 : Cond.fieldLink RX11 69 "LampRound$Village" "now" "LLampRound$Now;" ∈ GW := inG 458 (by decide +kernel) (by decide +kernel)
theorem q_463 : Cond.fieldLink RX11 79 "LampRound$Village" "houses" "LLampRound$Houses;" ∈ GW := inG 463 (by decide +kernel) (by decide +kernel)
theorem q_466 : Cond.fieldLink RX11 165 "LampRound$Village" "paths" "LLampRound$Paths;" ∈ GW := inG 466 (by decide +kernel) (by decide +kernel)
theorem q_469 : Cond.fieldLink RX11 172 "LampRound$Village" "needs" "LLampRound$Needs;" ∈ GW := inG 469 (by decide +kernel) (by decide +kernel)
theorem q_471 : Cond.fieldLink RX11 152 "LampRound$Village" "turns" "LLampRound$Law;" ∈ GW := inG 471 (by decide +kernel) (by decide +kernel)
theorem q_473 : Cond.fieldLink RX11 162 "LampRound$Village" "burning" "LLampRound$Law;" ∈ GW := inG 473 (by decide +kernel) (by decide +kernel)
theorem q_475 : Cond.fieldLink RX11 182 "LampRound$Village" "round" "LLampRound$Round;" ∈ GW := inG 475 (by decide +kernel) (by decide +kernel)
theorem q_476 : Cond.fieldLink RX10 59 "LampRound$Village" "clues" "LLampRound$Clues;" ∈ GW := inG 476 (by decide +kernel) (by decide +kernel)
theorem q_478 : Cond.fieldLink RX11 341 "LampRound$Village" "clues" "LLampRound$Clues;" ∈ GW := inG 478 (by decide +kernel) (by decide +kernel)
theorem q_480 : Cond.fieldLink RX11 298 "LampRound$Village" "book" "[I" ∈ GW := inG 480 (by decide +kernel) (by decide +kernel)
theorem q_482 : Cond.fieldLink RX11 376 "LampRound$Village" "flakes" "I" ∈ GW := inG 482 (by decide +kernel) (by decide +kernel)
theorem q_484 : Cond.fieldLink RX11 255 "LampRound$Village" "margin" "I" ∈ GW := inG 484 (by decide +kernel) (by decide +kernel)
theorem q_487 : Cond.fieldLink RX11 379 "LampRound$Village" "dusk" "I" ∈ GW := inG 487 (by decide +kernel) (by decide +kernel)
theorem q_489 : Cond.fieldLink RX11 382 "LampRound$Village" "due" "I" ∈ GW := inG 489 (by decide +kernel) (by decide +kernel)
theorem q_494 : Cond.fieldLink RX11 338 "LampRound$Village" "likely" "[I" ∈ GW := inG 494 (by decide +kernel) (by decide +kernel)
theorem q_539 : Cond.fieldLink RX11 126 "LampRound$Tape" "size" "I" ∈ GW := inG 539 (by decide +kernel) (by decide +kernel)
theorem q_555 : Cond.fieldLink RX11 145 "LampRound$Tape" "fault" "I" ∈ GW := inG 555 (by decide +kernel) (by decide +kernel)
theorem q_557 : Cond.fieldLink RX11 192 "LampRound$Tape" "faultPlace" "I" ∈ GW := inG 557 (by decide +kernel) (by decide +kernel)
theorem q_606 : Cond.fieldLink RX11 12 "LampRound" "village" "LLampRound$Village;" ∈ GW := inG 606 (by decide +kernel) (by decide +kernel)
theorem q_607 : Cond.fieldLink RX11 370 "LampRound" "kept" "LLampRound$Village;" ∈ GW := inG 607 (by decide +kernel) (by decide +kernel)
theorem q_608 : Cond.fieldLink RX11 19 "LampRound" "tape" "LLampRound$Tape;" ∈ GW := inG 608 (by decide +kernel) (by decide +kernel)
theorem q_609 : Cond.fieldLink RX11 26 "LampRound" "draftLaw" "LLampRound$Law;" ∈ GW := inG 609 (by decide +kernel) (by decide +kernel)
theorem q_610 : Cond.fieldLink RX11 33 "LampRound" "draftPaths" "LLampRound$Paths;" ∈ GW := inG 610 (by decide +kernel) (by decide +kernel)
theorem q_611 : Cond.fieldLink RX11 40 "LampRound" "draftNeeds" "LLampRound$Needs;" ∈ GW := inG 611 (by decide +kernel) (by decide +kernel)
theorem q_612 : Cond.fieldLink RX11 47 "LampRound" "draftRound" "LLampRound$Round;" ∈ GW := inG 612 (by decide +kernel) (by decide +kernel)
theorem q_613 : Cond.fieldLink RX11 54 "LampRound" "thought" "LLampRound$Now;" ∈ GW := inG 613 (by decide +kernel) (by decide +kernel)
theorem q_614 : Cond.fieldLink RX11 65 "LampRound" "past" "[LLampRound$Now;" ∈ GW := inG 614 (by decide +kernel) (by decide +kernel)
theorem q_615 : Cond.fieldLink RX11 208 "LampRound" "oldest" "I" ∈ GW := inG 615 (by decide +kernel) (by decide +kernel)
theorem q_616 : Cond.fieldLink RX11 211 "LampRound" "undoable" "I" ∈ GW := inG 616 (by decide +kernel) (by decide +kernel)
theorem q_617 : Cond.fieldLink RX11 217 "LampRound" "planner" "LLampRound$Planner;" ∈ GW := inG 617 (by decide +kernel) (by decide +kernel)
theorem q_618 : Cond.fieldLink RX11 61 "LampRound" "trail" "LLampRound$Trail;" ∈ GW := inG 618 (by decide +kernel) (by decide +kernel)
theorem q_650 : Cond.methodLink RX11 76 yX11_forgetNights ∈ GW := inG 650 (by decide +kernel) (by decide +kernel)
theorem q_652 : Cond.instanceMethod yX11_forgetNights ∈ GW := inG 652 (by decide +kernel) (by decide +kernel)
theorem q_653 : Cond.code yX11_forgetNights cX11_forgetNights 1 none ∈ GW := inG 653 (by decide +kernel) (by decide +kernel)
theorem q_654 : Cond.methodLink RX11 205 yX11_forgetPlan ∈ GW := inG 654 (by decide +kernel) (by decide +kernel)
theorem q_656 : Cond.instanceMethod yX11_forgetPlan ∈ GW := inG 656 (by decide +kernel) (by decide +kernel)
theorem q_657 : Cond.code yX11_forgetPlan cX11_forgetPlan 1 none ∈ GW := inG 657 (by decide +kernel) (by decide +kernel)
theorem q_662 : Cond.methodLink RX11 83 yX1_isFree ∈ GW := inG 662 (by decide +kernel) (by decide +kernel)
theorem q_663 : Cond.instanceMethod yX1_isFree ∈ GW := inG 663 (by decide +kernel) (by decide +kernel)
theorem q_664 : Cond.selects RX1 yX1_isFree yX1_isFree ∈ GW := inG 664 (by decide +kernel) (by decide +kernel)
theorem q_665 : Cond.code yX1_isFree cX1_isFree 3 (some .boolean) ∈ GW := inG 665 (by decide +kernel) (by decide +kernel)
theorem q_670 : Cond.fieldLink RX11 105 "LampRound" "LEAST_SET" "[I" ∈ GW := inG 670 (by decide +kernel) (by decide +kernel)
theorem q_672 : Cond.fieldLink RX11 108 "LampRound" "MOST_SET" "[I" ∈ GW := inG 672 (by decide +kernel) (by decide +kernel)
theorem q_674 : Cond.methodLink RX11 111 yX1_has ∈ GW := inG 674 (by decide +kernel) (by decide +kernel)
theorem q_678 : Cond.methodLink RX11 114 yX10_tellOfHouse ∈ GW := inG 678 (by decide +kernel) (by decide +kernel)
theorem q_679 : Cond.instanceMethod yX10_tellOfHouse ∈ GW := inG 679 (by decide +kernel) (by decide +kernel)
theorem q_680 : Cond.selects RX10 yX10_tellOfHouse yX10_tellOfHouse ∈ GW := inG 680 (by decide +kernel) (by decide +kernel)
theorem q_681 : Cond.code yX10_tellOfHouse cX10_tellOfHouse 4 none ∈ GW := inG 681 (by decide +kernel) (by decide +kernel)
theorem q_682 : Cond.methodLink RX11 118 yX10_tellOfAll ∈ GW := inG 682 (by decide +kernel) (by decide +kernel)
theorem q_683 : Cond.instanceMethod yX10_tellOfAll ∈ GW := inG 683 (by decide +kernel) (by decide +kernel)
theorem q_684 : Cond.selects RX10 yX10_tellOfAll yX10_tellOfAll ∈ GW := inG 684 (by decide +kernel) (by decide +kernel)
theorem q_685 : Cond.code yX10_tellOfAll cX10_tellOfAll 3 none ∈ GW := inG 685 (by decide +kernel) (by decide +kernel)
theorem q_690 : Cond.methodLink RX11 122 yX1_befriend ∈ GW := inG 690 (by decide +kernel) (by decide +kernel)
theorem q_691 : Cond.instanceMethod yX1_befriend ∈ GW := inG 691 (by decide +kernel) (by decide +kernel)
theorem q_692 : Cond.selects RX1 yX1_befriend yX1_befriend ∈ GW := inG 692 (by decide +kernel) (by decide +kernel)
theorem q_693 : Cond.code yX1_befriend cX1_befriend 4 none ∈ GW := inG 693 (by decide +kernel) (by decide +kernel)
theorem q_698 : Cond.methodLink RX11 129 yX8_append ∈ GW := inG 698 (by decide +kernel) (by decide +kernel)
theorem q_699 : Cond.instanceMethod yX8_append ∈ GW := inG 699 (by decide +kernel) (by decide +kernel)
theorem q_700 : Cond.selects RX8 yX8_append yX8_append ∈ GW := inG 700 (by decide +kernel) (by decide +kernel)
theorem q_701 : Cond.code yX8_append cX8_append 3 none ∈ GW := inG 701 (by decide +kernel) (by decide +kernel)
theorem q_710 : Cond.methodLink RX11 133 yX8_open ∈ GW := inG 710 (by decide +kernel) (by decide +kernel)
theorem q_711 : Cond.instanceMethod yX8_open ∈ GW := inG 711 (by decide +kernel) (by decide +kernel)
theorem q_712 : Cond.selects RX8 yX8_open yX8_open ∈ GW := inG 712 (by decide +kernel) (by decide +kernel)
theorem q_713 : Cond.code yX8_open cX8_open 2 none ∈ GW := inG 713 (by decide +kernel) (by decide +kernel)
theorem q_848 : Cond.methodLink RX11 136 yX2_read ∈ GW := inG 848 (by decide +kernel) (by decide +kernel)
theorem q_849 : Cond.instanceMethod yX2_read ∈ GW := inG 849 (by decide +kernel) (by decide +kernel)
theorem q_850 : Cond.selects RX2 yX2_read yX2_read ∈ GW := inG 850 (by decide +kernel) (by decide +kernel)
theorem q_851 : Cond.code yX2_read cX2_read 3 none ∈ GW := inG 851 (by decide +kernel) (by decide +kernel)
theorem q_910 : Cond.methodLink RX11 140 yX5_read ∈ GW := inG 910 (by decide +kernel) (by decide +kernel)
theorem q_911 : Cond.instanceMethod yX5_read ∈ GW := inG 911 (by decide +kernel) (by decide +kernel)
theorem q_912 : Cond.selects RX5 yX5_read yX5_read ∈ GW := inG 912 (by decide +kernel) (by decide +kernel)
theorem q_913 : Cond.code yX5_read cX5_read 4 none ∈ GW := inG 913 (by decide +kernel) (by decide +kernel)
theorem q_923 : Cond.methodLink RX11 143 yX3_read ∈ GW := inG 923 (by decide +kernel) (by decide +kernel)
theorem q_924 : Cond.instanceMethod yX3_read ∈ GW := inG 924 (by decide +kernel) (by decide +kernel)
theorem q_925 : Cond.selects RX3 yX3_read yX3_read ∈ GW := inG 925 (by decide +kernel) (by decide +kernel)
theorem q_926 : Cond.code yX3_read cX3_read 4 none ∈ GW := inG 926 (by decide +kernel) (by decide +kernel)
theorem q_936 : Cond.methodLink RX11 144 yX7_read ∈ GW := inG 936 (by decide +kernel) (by decide +kernel)
theorem q_937 : Cond.instanceMethod yX7_read ∈ GW := inG 937 (by decide +kernel) (by decide +kernel)
theorem q_938 : Cond.selects RX7 yX7_read yX7_read ∈ GW := inG 938 (by decide +kernel) (by decide +kernel)
theorem q_939 : Cond.code yX7_read cX7_read 5 none ∈ GW := inG 939 (by decide +kernel) (by decide +kernel)
theorem q_957 : Cond.methodLink RX11 148 yX11_takeDraft ∈ GW := inG 957 (by decide +kernel) (by decide +kernel)
theorem q_959 : Cond.instanceMethod yX11_takeDraft ∈ GW := inG 959 (by decide +kernel) (by decide +kernel)
theorem q_960 : Cond.code yX11_takeDraft cX11_takeDraft 2 (some .int) ∈ GW := inG 960 (by decide +kernel) (by decide +kernel)
theorem q_961 : Cond.methodLink RX11 155 yX2_take ∈ GW := inG 961 (by decide +kernel) (by decide +kernel)
theorem q_962 : Cond.instanceMethod yX2_take ∈ GW := inG 962 (by decide +kernel) (by decide +kernel)
theorem q_963 : Cond.selects RX2 yX2_take yX2_take ∈ GW := inG 963 (by decide +kernel) (by decide +kernel)
theorem q_964 : Cond.code yX2_take cX2_take 2 none ∈ GW := inG 964 (by decide +kernel) (by decide +kernel)
theorem q_968 : Cond.methodLink RX11 168 yX5_take ∈ GW := inG 968 (by decide +kernel) (by decide +kernel)
theorem q_969 : Cond.instanceMethod yX5_take ∈ GW := inG 969 (by decide +kernel) (by decide +kernel)
theorem q_970 : Cond.selects RX5 yX5_take yX5_take ∈ GW := inG 970 (by decide +kernel) (by decide +kernel)
theorem q_971 : Cond.code yX5_take cX5_take 3 none ∈ GW := inG 971 (by decide +kernel) (by decide +kernel)
theorem q_973 : Cond.methodLink RX11 175 yX3_take ∈ GW := inG 973 (by decide +kernel) (by decide +kernel)
theorem q_974 : Cond.instanceMethod yX3_take ∈ GW := inG 974 (by decide +kernel) (by decide +kernel)
theorem q_975 : Cond.selects RX3 yX3_take yX3_take ∈ GW := inG 975 (by decide +kernel) (by decide +kernel)
theorem q_976 : Cond.code yX3_take cX3_take 2 none ∈ GW := inG 976 (by decide +kernel) (by decide +kernel)
theorem q_978 : Cond.methodLink RX11 178 yX4_forgetNeeds ∈ GW := inG 978 (by decide +kernel) (by decide +kernel)
theorem q_979 : Cond.instanceMethod yX4_forgetNeeds ∈ GW := inG 979 (by decide +kernel) (by decide +kernel)
theorem q_980 : Cond.selects RX4 yX4_forgetNeeds yX4_forgetNeeds ∈ GW := inG 980 (by decide +kernel) (by decide +kernel)
theorem q_981 : Cond.code yX4_forgetNeeds cX4_forgetNeeds 2 none ∈ GW := inG 981 (by decide +kernel) (by decide +kernel)
theorem q_982 : Cond.methodLink RX11 185 yX7_take ∈ GW := inG 982 (by decide +kernel) (by decide +kernel)
theorem q_983 : Cond.instanceMethod yX7_take ∈ GW := inG 983 (by decide +kernel) (by decide +kernel)
theorem q_984 : Cond.selects RX7 yX7_take yX7_take ∈ GW := inG 984 (by decide +kernel) (by decide +kernel)
theorem q_985 : Cond.code yX7_take cX7_take 2 none ∈ GW := inG 985 (by decide +kernel) (by decide +kernel)
theorem q_995 : Cond.methodLink RX11 198 yX11_keepNight ∈ GW := inG 995 (by decide +kernel) (by decide +kernel)
theorem q_997 : Cond.instanceMethod yX11_keepNight ∈ GW := inG 997 (by decide +kernel) (by decide +kernel)
theorem q_998 : Cond.code yX11_keepNight cX11_keepNight 2 none ∈ GW := inG 998 (by decide +kernel) (by decide +kernel)
theorem q_999 : Cond.methodLink RX11 214 yX4_take ∈ GW := inG 999 (by decide +kernel) (by decide +kernel)
theorem hdV_X0_take : yX0_take.cls = RX0 ∧ yX0_take.cls ≠ "java/lang/invoke/MethodHandle" ∧ yX0_take.cls ≠ "java/lang/invoke/VarHandle" ∧ (parseMethodDescriptor yX0_take.desc).map (fun d => d.parameters.length) = some 1 := by decide +kernel
theorem hdV_X1_befriend : yX1_befriend.cls = RX1 ∧ yX1_befriend.cls ≠ "java/lang/invoke/MethodHandle" ∧ yX1_befriend.cls ≠ "java/lang/invoke/VarHandle" ∧ (parseMethodDescriptor yX1_befriend.desc).map (fun d => d.parameters.length) = some 3 := by decide +kernel
theorem hdV_X1_canMend : yX1_canMend.cls = RX1 ∧ yX1_canMend.cls ≠ "java/lang/invoke/MethodHandle" ∧ yX1_canMend.cls ≠ "java/lang/invoke/VarHandle" ∧ (parseMethodDescriptor yX1_canMend.desc).map (fun d => d.parameters.length) = some 2 := by decide +kernel
theorem hdV_X1_enviedBy : yX1_enviedBy.cls = RX1 ∧ yX1_enviedBy.cls ≠ "java/lang/invoke/MethodHandle" ∧ yX1_enviedBy.cls ≠ "java/lang/invoke/VarHandle" ∧ (parseMethodDescriptor yX1_enviedBy.desc).map (fun d => d.parameters.length) = some 3 := by decide +kernel
theorem hdV_X1_highestBid : yX1_highestBid.cls = RX1 ∧ yX1_highestBid.cls ≠ "java/lang/invoke/MethodHandle" ∧ yX1_highestBid.cls ≠ "java/lang/invoke/VarHandle" ∧ (parseMethodDescriptor yX1_highestBid.desc).map (fun d => d.parameters.length) = some 1 := by decide +kernel
theorem hdV_X1_isFree : yX1_isFree.cls = RX1 ∧ yX1_isFree.cls ≠ "java/lang/invoke/MethodHandle" ∧ yX1_isFree.cls ≠ "java/lang/invoke/VarHandle" ∧ (parseMethodDescriptor yX1_isFree.desc).map (fun d => d.parameters.length) = some 1 := by decide +kernel
theorem hdV_X1_pairUp : yX1_pairUp.cls = RX1 ∧ yX1_pairUp.cls ≠ "java/lang/invoke/MethodHandle" ∧ yX1_pairUp.cls ≠ "java/lang/invoke/VarHandle" ∧ (parseMethodDescriptor yX1_pairUp.desc).map (fun d => d.parameters.length) = some 0 := by decide +kernel
theorem hdV_X1_seenBy : yX1_seenBy.cls = RX1 ∧ yX1_seenBy.cls ≠ "java/lang/invoke/MethodHandle" ∧ yX1_seenBy.cls ≠ "java/lang/invoke/VarHandle" ∧ (parseMethodDescriptor yX1_seenBy.desc).map (fun d => d.parameters.length) = some 1 := by decide +kernel
theorem hdV_X1_take : yX1_take.cls = RX1 ∧ yX1_take.cls ≠ "java/lang/invoke/MethodHandle" ∧ yX1_take.cls ≠ "java/lang/invoke/VarHandle" ∧ (parseMethodDescriptor yX1_take.desc).map (fun d => d.parameters.length) = some 1 := by decide +kernel
theorem hdV_X10_passNight : yX10_passNight.cls = RX10 ∧ yX10_passNight.cls ≠ "java/lang/invoke/MethodHandle" ∧ yX10_passNight.cls ≠ "java/lang/invoke/VarHandle" ∧ (parseMethodDescriptor yX10_passNight.desc).map (fun d => d.parameters.length) = some 2 := by decide +kernel
theorem hdV_X10_take : yX10_take.cls = RX10 ∧ yX10_take.cls ≠ "java/lang/invoke/MethodHandle" ∧ yX10_take.cls ≠ "java/lang/invoke/VarHandle" ∧ (parseMethodDescriptor yX10_take.desc).map (fun d => d.parameters.length) = some 1 := by decide +kernel
theorem hdV_X10_tellOfAll : yX10_tellOfAll.cls = RX10 ∧ yX10_tellOfAll.cls ≠ "java/lang/invoke/MethodHandle" ∧ yX10_tellOfAll.cls ≠ "java/lang/invoke/VarHandle" ∧ (parseMethodDescriptor yX10_tellOfAll.desc).map (fun d => d.parameters.length) = some 2 := by decide +kernel
theorem hdV_X10_tellOfHouse : yX10_tellOfHouse.cls = RX10 ∧ yX10_tellOfHouse.cls ≠ "java/lang/invoke/MethodHandle" ∧ yX10_tellOfHouse.cls ≠ "java/lang/invoke/VarHandle" ∧ (parseMethodDescriptor yX10_tellOfHouse.desc).map (fun d => d.parameters.length) = some 3 := by decide +kernel
theorem hdV_X10_weighReaching : yX10_weighReaching.cls = RX10 ∧ yX10_weighReaching.cls ≠ "java/lang/invoke/MethodHandle" ∧ yX10_weighReaching.cls ≠ "java/lang/invoke/VarHandle" ∧ (parseMethodDescriptor yX10_weighReaching.desc).map (fun d => d.parameters.length) = some 2 := by decide +kernel
theorem hdV_X11_forgetNights : yX11_forgetNights.cls = RX11 ∧ yX11_forgetNights.cls ≠ "java/lang/invoke/MethodHandle" ∧ yX11_forgetNights.cls ≠ "java/lang/invoke/VarHandle" ∧ (parseMethodDescriptor yX11_forgetNights.desc).map (fun d => d.parameters.length) = some 0 := by decide +kernel
theorem hdV_X11_forgetPlan : yX11_forgetPlan.cls = RX11 ∧ yX11_forgetPlan.cls ≠ "java/lang/invoke/MethodHandle" ∧ yX11_forgetPlan.cls ≠ "java/lang/invoke/VarHandle" ∧ (parseMethodDescriptor yX11_forgetPlan.desc).map (fun d => d.parameters.length) = some 0 := by decide +kernel
theorem hdV_X11_keepNight : yX11_keepNight.cls = RX11 ∧ yX11_keepNight.cls ≠ "java/lang/invoke/MethodHandle" ∧ yX11_keepNight.cls ≠ "java/lang/invoke/VarHandle" ∧ (parseMethodDescriptor yX11_keepNight.desc).map (fun d => d.parameters.length) = some 0 := by decide +kernel
theorem hdV_X11_least : yX11_least.cls = RX11 ∧ yX11_least.cls ≠ "java/lang/invoke/MethodHandle" ∧ yX11_least.cls ≠ "java/lang/invoke/VarHandle" ∧ (parseMethodDescriptor yX11_least.desc).map (fun d => d.parameters.length) = some 1 := by decide +kernel
theorem hdV_X11_takeDraft : yX11_takeDraft.cls = RX11 ∧ yX11_takeDraft.cls ≠ "java/lang/invoke/MethodHandle" ∧ yX11_takeDraft.cls ≠ "java/lang/invoke/VarHandle" ∧ (parseMethodDescriptor yX11_takeDraft.desc).map (fun d => d.parameters.length) = some 1 := by decide +kernel
theorem hdV_X2_read : yX2_read.cls = RX2 ∧ yX2_read.cls ≠ "java/lang/invoke/MethodHandle" ∧ yX2_read.cls ≠ "java/lang/invoke/VarHandle" ∧ (parseMethodDescriptor yX2_read.desc).map (fun d => d.parameters.length) = some 1 := by decide +kernel
theorem hdV_X2_take : yX2_take.cls = RX2 ∧ yX2_take.cls ≠ "java/lang/invoke/MethodHandle" ∧ yX2_take.cls ≠ "java/lang/invoke/VarHandle" ∧ (parseMethodDescriptor yX2_take.desc).map (fun d => d.parameters.length) = some 1 := by decide +kernel
theorem hdV_X3_read : yX3_read.cls = RX3 ∧ yX3_read.cls ≠ "java/lang/invoke/MethodHandle" ∧ yX3_read.cls ≠ "java/lang/invoke/VarHandle" ∧ (parseMethodDescriptor yX3_read.desc).map (fun d => d.parameters.length) = some 2 := by decide +kernel
theorem hdV_X3_take : yX3_take.cls = RX3 ∧ yX3_take.cls ≠ "java/lang/invoke/MethodHandle" ∧ yX3_take.cls ≠ "java/lang/invoke/VarHandle" ∧ (parseMethodDescriptor yX3_take.desc).map (fun d => d.parameters.length) = some 1 := by decide +kernel
theorem hdV_X4_forgetNeeds : yX4_forgetNeeds.cls = RX4 ∧ yX4_forgetNeeds.cls ≠ "java/lang/invoke/MethodHandle" ∧ yX4_forgetNeeds.cls ≠ "java/lang/invoke/VarHandle" ∧ (parseMethodDescriptor yX4_forgetNeeds.desc).map (fun d => d.parameters.length) = some 0 := by decide +kernel
theorem hdV_X4_take : yX4_take.cls = RX4 ∧ yX4_take.cls ≠ "java/lang/invoke/MethodHandle" ∧ yX4_take.cls ≠ "java/lang/invoke/VarHandle" ∧ (parseMethodDescriptor yX4_take.desc).map (fun d => d.parameters.length) = some 1 := by decide +kernel
theorem hdV_X5_read : yX5_read.cls = RX5 ∧ yX5_read.cls ≠ "java/lang/invoke/MethodHandle" ∧ yX5_read.cls ≠ "java/lang/invoke/VarHandle" ∧ (parseMethodDescriptor yX5_read.desc).map (fun d => d.parameters.length) = some 2 := by decide +kernel
theorem hdV_X5_take : yX5_take.cls = RX5 ∧ yX5_take.cls ≠ "java/lang/invoke/MethodHandle" ∧ yX5_take.cls ≠ "java/lang/invoke/VarHandle" ∧ (parseMethodDescriptor yX5_take.desc).map (fun d => d.parameters.length) = some 1 := by decide +kernel
theorem hdV_X6_search : yX6_search.cls = RX6 ∧ yX6_search.cls ≠ "java/lang/invoke/MethodHandle" ∧ yX6_search.cls ≠ "java/lang/invoke/VarHandle" ∧ (parseMethodDescriptor yX6_search.desc).map (fun d => d.parameters.length) = some 2 := by decide +kernel
theorem hdV_X6_stop : yX6_stop.cls = RX6 ∧ yX6_stop.cls ≠ "java/lang/invoke/MethodHandle" ∧ yX6_stop.cls ≠ "java/lang/invoke/VarHandle" ∧ (parseMethodDescriptor yX6_stop.desc).map (fun d => d.parameters.length) = some 1 := by decide +kernel
theorem hdV_X6_way : yX6_way.cls = RX6 ∧ yX6_way.cls ≠ "java/lang/invoke/MethodHandle" ∧ yX6_way.cls ≠ "java/lang/invoke/VarHandle" ∧ (parseMethodDescriptor yX6_way.desc).map (fun d => d.parameters.length) = some 0 := by decide +kernel
theorem hdV_X7_read : yX7_read.cls = RX7 ∧ yX7_read.cls ≠ "java/lang/invoke/MethodHandle" ∧ yX7_read.cls ≠ "java/lang/invoke/VarHandle" ∧ (parseMethodDescriptor yX7_read.desc).map (fun d => d.parameters.length) = some 2 := by decide +kernel
theorem hdV_X7_take : yX7_take.cls = RX7 ∧ yX7_take.cls ≠ "java/lang/invoke/MethodHandle" ∧ yX7_take.cls ≠ "java/lang/invoke/VarHandle" ∧ (parseMethodDescriptor yX7_take.desc).map (fun d => d.parameters.length) = some 1 := by decide +kernel
theorem hdV_X8_append : yX8_append.cls = RX8 ∧ yX8_append.cls ≠ "java/lang/invoke/MethodHandle" ∧ yX8_append.cls ≠ "java/lang/invoke/VarHandle" ∧ (parseMethodDescriptor yX8_append.desc).map (fun d => d.parameters.length) = some 1 := by decide +kernel
theorem hdV_X8_open : yX8_open.cls = RX8 ∧ yX8_open.cls ≠ "java/lang/invoke/MethodHandle" ∧ yX8_open.cls ≠ "java/lang/invoke/VarHandle" ∧ (parseMethodDescriptor yX8_open.desc).map (fun d => d.parameters.length) = some 1 := by decide +kernel
theorem hdV_X9_follow : yX9_follow.cls = RX9 ∧ yX9_follow.cls ≠ "java/lang/invoke/MethodHandle" ∧ yX9_follow.cls ≠ "java/lang/invoke/VarHandle" ∧ (parseMethodDescriptor yX9_follow.desc).map (fun d => d.parameters.length) = some 2 := by decide +kernel
theorem hdV_X9_question : yX9_question.cls = RX9 ∧ yX9_question.cls ≠ "java/lang/invoke/MethodHandle" ∧ yX9_question.cls ≠ "java/lang/invoke/VarHandle" ∧ (parseMethodDescriptor yX9_question.desc).map (fun d => d.parameters.length) = some 3 := by decide +kernel
