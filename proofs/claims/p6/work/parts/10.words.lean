theorem dX12_allRows_0 : decode cX12_allRows 0 = .ok (.lconst 0, 1) := by decide +kernel
theorem dX12_allRows_1 : decode cX12_allRows 1 = .ok (.lstore_n 2, 1) := by decide +kernel
theorem dX12_allRows_2 : decode cX12_allRows 2 = .ok (.iconst 0, 1) := by decide +kernel
theorem dX12_allRows_3 : decode cX12_allRows 3 = .ok (.istore 4, 2) := by decide +kernel
theorem dX12_allRows_5 : decode cX12_allRows 5 = .ok (.iload 4, 2) := by decide +kernel
theorem dX12_allRows_7 : decode cX12_allRows 7 = .ok (.aload_n 0, 1) := by decide +kernel
theorem dX12_allRows_8 : decode cX12_allRows 8 = .ok (.getfield 148, 3) := by decide +kernel
theorem dX12_allRows_11 : decode cX12_allRows 11 = .ok (.if_icmp .ge 26, 3) := by decide +kernel
theorem dX12_allRows_14 : decode cX12_allRows 14 = .ok (.lload_n 2, 1) := by decide +kernel
theorem dX12_allRows_15 : decode cX12_allRows 15 = .ok (.aload_n 0, 1) := by decide +kernel
theorem dX12_allRows_16 : decode cX12_allRows 16 = .ok (.getfield 120, 3) := by decide +kernel
theorem dX12_allRows_19 : decode cX12_allRows 19 = .ok (.bipush 10, 2) := by decide +kernel
theorem dX12_allRows_21 : decode cX12_allRows 21 = .ok (.iload_n 1, 1) := by decide +kernel
theorem dX12_allRows_22 : decode cX12_allRows 22 = .ok (.iconst 1, 1) := by decide +kernel
theorem dX12_allRows_23 : decode cX12_allRows 23 = .ok (.isub, 1) := by decide +kernel
theorem dX12_allRows_24 : decode cX12_allRows 24 = .ok (.imul, 1) := by decide +kernel
theorem dX12_allRows_25 : decode cX12_allRows 25 = .ok (.iload 4, 2) := by decide +kernel
theorem dX12_allRows_27 : decode cX12_allRows 27 = .ok (.iadd, 1) := by decide +kernel
theorem dX12_allRows_28 : decode cX12_allRows 28 = .ok (.laload, 1) := by decide +kernel
theorem dX12_allRows_29 : decode cX12_allRows 29 = .ok (.ladd, 1) := by decide +kernel
theorem dX12_allRows_30 : decode cX12_allRows 30 = .ok (.lstore_n 2, 1) := by decide +kernel
theorem dX12_allRows_31 : decode cX12_allRows 31 = .ok (.iinc 4 1, 3) := by decide +kernel
theorem dX12_allRows_34 : decode cX12_allRows 34 = .ok (.goto (-29), 3) := by decide +kernel
theorem dX12_allRows_37 : decode cX12_allRows 37 = .ok (.lload_n 2, 1) := by decide +kernel
theorem dX12_allRows_38 : decode cX12_allRows 38 = .ok (.lreturn, 1) := by decide +kernel
theorem dX12_canBe_0 : decode cX12_canBe 0 = .ok (.iconst 0, 1) := by decide +kernel
theorem dX12_canBe_1 : decode cX12_canBe 1 = .ok (.istore_n 3, 1) := by decide +kernel
theorem dX12_canBe_2 : decode cX12_canBe 2 = .ok (.iload_n 3, 1) := by decide +kernel
theorem dX12_canBe_3 : decode cX12_canBe 3 = .ok (.aload_n 0, 1) := by decide +kernel
theorem dX12_canBe_4 : decode cX12_canBe 4 = .ok (.getfield 517, 3) := by decide +kernel
theorem dX12_canBe_7 : decode cX12_canBe 7 = .ok (.if_icmp .ge 34, 3) := by decide +kernel
theorem dX12_canBe_10 : decode cX12_canBe 10 = .ok (.aload_n 0, 1) := by decide +kernel
theorem dX12_canBe_11 : decode cX12_canBe 11 = .ok (.getfield 37, 3) := by decide +kernel
theorem dX12_canBe_14 : decode cX12_canBe 14 = .ok (.iload_n 3, 1) := by decide +kernel
theorem dX12_canBe_15 : decode cX12_canBe 15 = .ok (.iaload, 1) := by decide +kernel
theorem dX12_canBe_16 : decode cX12_canBe 16 = .ok (.iload_n 1, 1) := by decide +kernel
theorem dX12_canBe_17 : decode cX12_canBe 17 = .ok (.if_icmp .ne 18, 3) := by decide +kernel
theorem dX12_canBe_20 : decode cX12_canBe 20 = .ok (.aload_n 0, 1) := by decide +kernel
theorem dX12_canBe_21 : decode cX12_canBe 21 = .ok (.getfield 40, 3) := by decide +kernel
theorem dX12_canBe_24 : decode cX12_canBe 24 = .ok (.iload_n 3, 1) := by decide +kernel
theorem dX12_canBe_25 : decode cX12_canBe 25 = .ok (.iaload, 1) := by decide +kernel
theorem dX12_canBe_26 : decode cX12_canBe 26 = .ok (.iload_n 2, 1) := by decide +kernel
theorem dX12_canBe_27 : decode cX12_canBe 27 = .ok (.ishr, 1) := by decide +kernel
theorem dX12_canBe_28 : decode cX12_canBe 28 = .ok (.iconst 1, 1) := by decide +kernel
theorem dX12_canBe_29 : decode cX12_canBe 29 = .ok (.iand, 1) := by decide +kernel
theorem dX12_canBe_30 : decode cX12_canBe 30 = .ok (.ifCond .ne 5, 3) := by decide +kernel
theorem dX12_canBe_33 : decode cX12_canBe 33 = .ok (.iconst 0, 1) := by decide +kernel
theorem dX12_canBe_34 : decode cX12_canBe 34 = .ok (.ireturn, 1) := by decide +kernel
theorem dX12_canBe_35 : decode cX12_canBe 35 = .ok (.iinc 3 1, 3) := by decide +kernel
theorem dX12_canBe_38 : decode cX12_canBe 38 = .ok (.goto (-36), 3) := by decide +kernel
theorem dX12_canBe_41 : decode cX12_canBe 41 = .ok (.iconst 1, 1) := by decide +kernel
theorem dX12_canBe_42 : decode cX12_canBe 42 = .ok (.ireturn, 1) := by decide +kernel
theorem dX12_doesEnvy_0 : decode cX12_doesEnvy 0 = .ok (.aload_n 0, 1) := by decide +kernel
theorem dX12_doesEnvy_1 : decode cX12_doesEnvy 1 = .ok (.getfield 7, 3) := by decide +kernel
theorem dX12_doesEnvy_4 : decode cX12_doesEnvy 4 = .ok (.bipush 26, 2) := by decide +kernel
theorem dX12_doesEnvy_6 : decode cX12_doesEnvy 6 = .ok (.iload_n 2, 1) := by decide +kernel
theorem dX12_doesEnvy_7 : decode cX12_doesEnvy 7 = .ok (.iadd, 1) := by decide +kernel
theorem dX12_doesEnvy_8 : decode cX12_doesEnvy 8 = .ok (.iaload, 1) := by decide +kernel
theorem dX12_doesEnvy_9 : decode cX12_doesEnvy 9 = .ok (.aload_n 0, 1) := by decide +kernel
theorem dX12_doesEnvy_10 : decode cX12_doesEnvy 10 = .ok (.getfield 22, 3) := by decide +kernel
theorem dX12_doesEnvy_13 : decode cX12_doesEnvy 13 = .ok (.iload_n 1, 1) := by decide +kernel
theorem dX12_doesEnvy_14 : decode cX12_doesEnvy 14 = .ok (.iaload, 1) := by decide +kernel
theorem dX12_doesEnvy_15 : decode cX12_doesEnvy 15 = .ok (.imul, 1) := by decide +kernel
theorem dX12_doesEnvy_16 : decode cX12_doesEnvy 16 = .ok (.aload_n 0, 1) := by decide +kernel
theorem dX12_doesEnvy_17 : decode cX12_doesEnvy 17 = .ok (.getfield 7, 3) := by decide +kernel
theorem dX12_doesEnvy_20 : decode cX12_doesEnvy 20 = .ok (.bipush 26, 2) := by decide +kernel
theorem dX12_doesEnvy_22 : decode cX12_doesEnvy 22 = .ok (.iload_n 1, 1) := by decide +kernel
theorem dX12_doesEnvy_23 : decode cX12_doesEnvy 23 = .ok (.iadd, 1) := by decide +kernel
theorem dX12_doesEnvy_24 : decode cX12_doesEnvy 24 = .ok (.iaload, 1) := by decide +kernel
theorem dX12_doesEnvy_25 : decode cX12_doesEnvy 25 = .ok (.aload_n 0, 1) := by decide +kernel
theorem dX12_doesEnvy_26 : decode cX12_doesEnvy 26 = .ok (.getfield 169, 3) := by decide +kernel
theorem dX12_doesEnvy_29 : decode cX12_doesEnvy 29 = .ok (.iadd, 1) := by decide +kernel
theorem dX12_doesEnvy_30 : decode cX12_doesEnvy 30 = .ok (.aload_n 0, 1) := by decide +kernel
theorem dX12_doesEnvy_31 : decode cX12_doesEnvy 31 = .ok (.getfield 22, 3) := by decide +kernel
theorem dX12_doesEnvy_34 : decode cX12_doesEnvy 34 = .ok (.iload_n 2, 1) := by decide +kernel
theorem dX12_doesEnvy_35 : decode cX12_doesEnvy 35 = .ok (.iaload, 1) := by decide +kernel
theorem dX12_doesEnvy_36 : decode cX12_doesEnvy 36 = .ok (.imul, 1) := by decide +kernel
theorem dX12_doesEnvy_37 : decode cX12_doesEnvy 37 = .ok (.if_icmp .le 7, 3) := by decide +kernel
theorem dX12_doesEnvy_40 : decode cX12_doesEnvy 40 = .ok (.iconst 1, 1) := by decide +kernel
theorem dX12_doesEnvy_41 : decode cX12_doesEnvy 41 = .ok (.goto 4, 3) := by decide +kernel
theorem dX12_doesEnvy_44 : decode cX12_doesEnvy 44 = .ok (.iconst 0, 1) := by decide +kernel
theorem dX12_doesEnvy_45 : decode cX12_doesEnvy 45 = .ok (.ireturn, 1) := by decide +kernel
theorem dX12_doesSee_0 : decode cX12_doesSee 0 = .ok (.aload_n 0, 1) := by decide +kernel
theorem dX12_doesSee_1 : decode cX12_doesSee 1 = .ok (.aload_n 0, 1) := by decide +kernel
theorem dX12_doesSee_2 : decode cX12_doesSee 2 = .ok (.getfield 19, 3) := by decide +kernel
theorem dX12_doesSee_5 : decode cX12_doesSee 5 = .ok (.iload_n 1, 1) := by decide +kernel
theorem dX12_doesSee_6 : decode cX12_doesSee 6 = .ok (.iaload, 1) := by decide +kernel
theorem dX12_doesSee_7 : decode cX12_doesSee 7 = .ok (.bipush 8, 2) := by decide +kernel
theorem dX12_doesSee_9 : decode cX12_doesSee 9 = .ok (.irem, 1) := by decide +kernel
theorem dX12_doesSee_10 : decode cX12_doesSee 10 = .ok (.aload_n 0, 1) := by decide +kernel
theorem dX12_doesSee_11 : decode cX12_doesSee 11 = .ok (.getfield 19, 3) := by decide +kernel
theorem dX12_doesSee_14 : decode cX12_doesSee 14 = .ok (.iload_n 2, 1) := by decide +kernel
theorem dX12_doesSee_15 : decode cX12_doesSee 15 = .ok (.iaload, 1) := by decide +kernel
theorem dX12_doesSee_16 : decode cX12_doesSee 16 = .ok (.bipush 8, 2) := by decide +kernel
theorem dX12_doesSee_18 : decode cX12_doesSee 18 = .ok (.irem, 1) := by decide +kernel
theorem dX12_doesSee_19 : decode cX12_doesSee 19 = .ok (.isub, 1) := by decide +kernel
theorem dX12_doesSee_20 : decode cX12_doesSee 20 = .ok (.invokevirtual 425, 3) := by decide +kernel
theorem dX12_doesSee_23 : decode cX12_doesSee 23 = .ok (.aload_n 0, 1) := by decide +kernel
theorem dX12_doesSee_24 : decode cX12_doesSee 24 = .ok (.aload_n 0, 1) := by decide +kernel
theorem dX12_doesSee_25 : decode cX12_doesSee 25 = .ok (.getfield 19, 3) := by decide +kernel
theorem dX12_doesSee_28 : decode cX12_doesSee 28 = .ok (.iload_n 1, 1) := by decide +kernel
theorem dX12_doesSee_29 : decode cX12_doesSee 29 = .ok (.iaload, 1) := by decide +kernel
theorem dX12_doesSee_30 : decode cX12_doesSee 30 = .ok (.bipush 8, 2) := by decide +kernel
theorem dX12_doesSee_32 : decode cX12_doesSee 32 = .ok (.idiv, 1) := by decide +kernel
theorem dX12_doesSee_33 : decode cX12_doesSee 33 = .ok (.aload_n 0, 1) := by decide +kernel
theorem dX12_doesSee_34 : decode cX12_doesSee 34 = .ok (.getfield 19, 3) := by decide +kernel
theorem dX12_doesSee_37 : decode cX12_doesSee 37 = .ok (.iload_n 2, 1) := by decide +kernel
theorem dX12_doesSee_38 : decode cX12_doesSee 38 = .ok (.iaload, 1) := by decide +kernel
theorem dX12_doesSee_39 : decode cX12_doesSee 39 = .ok (.bipush 8, 2) := by decide +kernel
theorem dX12_doesSee_41 : decode cX12_doesSee 41 = .ok (.idiv, 1) := by decide +kernel
theorem dX12_doesSee_42 : decode cX12_doesSee 42 = .ok (.isub, 1) := by decide +kernel
theorem dX12_doesSee_43 : decode cX12_doesSee 43 = .ok (.invokevirtual 425, 3) := by decide +kernel
theorem dX12_doesSee_46 : decode cX12_doesSee 46 = .ok (.iadd, 1) := by decide +kernel
theorem dX12_doesSee_47 : decode cX12_doesSee 47 = .ok (.istore_n 3, 1) := by decide +kernel
theorem dX12_doesSee_48 : decode cX12_doesSee 48 = .ok (.iload_n 1, 1) := by decide +kernel
theorem dX12_doesSee_49 : decode cX12_doesSee 49 = .ok (.iload_n 2, 1) := by decide +kernel
theorem dX12_doesSee_50 : decode cX12_doesSee 50 = .ok (.if_icmp .eq 8, 3) := by decide +kernel
theorem dX12_doesSee_53 : decode cX12_doesSee 53 = .ok (.iload_n 3, 1) := by decide +kernel
theorem dX12_doesSee_54 : decode cX12_doesSee 54 = .ok (.iconst 5, 1) := by decide +kernel
theorem dX12_doesSee_55 : decode cX12_doesSee 55 = .ok (.if_icmp .le 5, 3) := by decide +kernel
theorem dX12_doesSee_58 : decode cX12_doesSee 58 = .ok (.iconst 0, 1) := by decide +kernel
theorem dX12_doesSee_59 : decode cX12_doesSee 59 = .ok (.ireturn, 1) := by decide +kernel
theorem dX12_doesSee_60 : decode cX12_doesSee 60 = .ok (.iconst 0, 1) := by decide +kernel
theorem dX12_doesSee_61 : decode cX12_doesSee 61 = .ok (.istore 4, 2) := by decide +kernel
theorem dX12_doesSee_63 : decode cX12_doesSee 63 = .ok (.iload 4, 2) := by decide +kernel
theorem dX12_doesSee_65 : decode cX12_doesSee 65 = .ok (.aload_n 0, 1) := by decide +kernel
theorem dX12_doesSee_66 : decode cX12_doesSee 66 = .ok (.getfield 148, 3) := by decide +kernel
theorem dX12_doesSee_69 : decode cX12_doesSee 69 = .ok (.if_icmp .ge 49, 3) := by decide +kernel
theorem dX12_doesSee_72 : decode cX12_doesSee 72 = .ok (.iload 4, 2) := by decide +kernel
theorem dX12_doesSee_74 : decode cX12_doesSee 74 = .ok (.iload_n 1, 1) := by decide +kernel
theorem dX12_doesSee_75 : decode cX12_doesSee 75 = .ok (.if_icmp .eq 37, 3) := by decide +kernel
theorem dX12_doesSee_78 : decode cX12_doesSee 78 = .ok (.iload 4, 2) := by decide +kernel
theorem dX12_doesSee_80 : decode cX12_doesSee 80 = .ok (.iload_n 2, 1) := by decide +kernel
theorem dX12_doesSee_81 : decode cX12_doesSee 81 = .ok (.if_icmp .eq 31, 3) := by decide +kernel
theorem dX12_doesSee_84 : decode cX12_doesSee 84 = .ok (.aload_n 0, 1) := by decide +kernel
theorem dX12_doesSee_85 : decode cX12_doesSee 85 = .ok (.aload_n 0, 1) := by decide +kernel
theorem dX12_doesSee_86 : decode cX12_doesSee 86 = .ok (.getfield 19, 3) := by decide +kernel
theorem dX12_doesSee_89 : decode cX12_doesSee 89 = .ok (.iload 4, 2) := by decide +kernel
theorem dX12_doesSee_91 : decode cX12_doesSee 91 = .ok (.iaload, 1) := by decide +kernel
theorem dX12_doesSee_92 : decode cX12_doesSee 92 = .ok (.aload_n 0, 1) := by decide +kernel
theorem dX12_doesSee_93 : decode cX12_doesSee 93 = .ok (.getfield 19, 3) := by decide +kernel
theorem dX12_doesSee_96 : decode cX12_doesSee 96 = .ok (.iload_n 1, 1) := by decide +kernel
theorem dX12_doesSee_97 : decode cX12_doesSee 97 = .ok (.iaload, 1) := by decide +kernel
theorem dX12_doesSee_98 : decode cX12_doesSee 98 = .ok (.aload_n 0, 1) := by decide +kernel
theorem dX12_doesSee_99 : decode cX12_doesSee 99 = .ok (.getfield 19, 3) := by decide +kernel
theorem dX12_doesSee_102 : decode cX12_doesSee 102 = .ok (.iload_n 2, 1) := by decide +kernel
theorem dX12_doesSee_103 : decode cX12_doesSee 103 = .ok (.iaload, 1) := by decide +kernel
theorem dX12_doesSee_104 : decode cX12_doesSee 104 = .ok (.invokevirtual 428, 3) := by decide +kernel
theorem dX12_doesSee_107 : decode cX12_doesSee 107 = .ok (.ifCond .eq 5, 3) := by decide +kernel
theorem dX12_doesSee_110 : decode cX12_doesSee 110 = .ok (.iconst 0, 1) := by decide +kernel
theorem dX12_doesSee_111 : decode cX12_doesSee 111 = .ok (.ireturn, 1) := by decide +kernel
theorem dX12_doesSee_112 : decode cX12_doesSee 112 = .ok (.iinc 4 1, 3) := by decide +kernel
theorem dX12_doesSee_115 : decode cX12_doesSee 115 = .ok (.goto (-52), 3) := by decide +kernel
theorem dX12_doesSee_118 : decode cX12_doesSee 118 = .ok (.iconst 1, 1) := by decide +kernel
theorem dX12_doesSee_119 : decode cX12_doesSee 119 = .ok (.ireturn, 1) := by decide +kernel
theorem dX12_draw_0 : decode cX12_draw 0 = .ok (.aload_n 0, 1) := by decide +kernel
theorem dX12_draw_1 : decode cX12_draw 1 = .ok (.getfield 7, 3) := by decide +kernel
theorem dX12_draw_4 : decode cX12_draw 4 = .ok (.iconst 1, 1) := by decide +kernel
theorem dX12_draw_5 : decode cX12_draw 5 = .ok (.ldc 140, 2) := by decide +kernel
theorem dX12_draw_7 : decode cX12_draw 7 = .ok (.aload_n 0, 1) := by decide +kernel
theorem dX12_draw_8 : decode cX12_draw 8 = .ok (.getfield 7, 3) := by decide +kernel
theorem dX12_draw_11 : decode cX12_draw 11 = .ok (.iconst 1, 1) := by decide +kernel
theorem dX12_draw_12 : decode cX12_draw 12 = .ok (.iaload, 1) := by decide +kernel
theorem dX12_draw_13 : decode cX12_draw 13 = .ok (.imul, 1) := by decide +kernel
theorem dX12_draw_14 : decode cX12_draw 14 = .ok (.ldc 141, 2) := by decide +kernel
theorem dX12_draw_16 : decode cX12_draw 16 = .ok (.iadd, 1) := by decide +kernel
theorem dX12_draw_17 : decode cX12_draw 17 = .ok (.iastore, 1) := by decide +kernel
theorem dX12_draw_18 : decode cX12_draw 18 = .ok (.aload_n 0, 1) := by decide +kernel
theorem dX12_draw_19 : decode cX12_draw 19 = .ok (.getfield 7, 3) := by decide +kernel
theorem dX12_draw_22 : decode cX12_draw 22 = .ok (.iconst 1, 1) := by decide +kernel
theorem dX12_draw_23 : decode cX12_draw 23 = .ok (.iaload, 1) := by decide +kernel
theorem dX12_draw_24 : decode cX12_draw 24 = .ok (.bipush 8, 2) := by decide +kernel
theorem dX12_draw_26 : decode cX12_draw 26 = .ok (.iushr, 1) := by decide +kernel
theorem dX12_draw_27 : decode cX12_draw 27 = .ok (.iload_n 1, 1) := by decide +kernel
theorem dX12_draw_28 : decode cX12_draw 28 = .ok (.irem, 1) := by decide +kernel
theorem dX12_draw_29 : decode cX12_draw 29 = .ok (.ireturn, 1) := by decide +kernel
theorem dX12_due_0 : decode cX12_due 0 = .ok (.aload_n 0, 1) := by decide +kernel
theorem dX12_due_1 : decode cX12_due 1 = .ok (.getfield 145, 3) := by decide +kernel
theorem dX12_due_4 : decode cX12_due 4 = .ok (.bipush 30, 2) := by decide +kernel
theorem dX12_due_6 : decode cX12_due 6 = .ok (.iadd, 1) := by decide +kernel
theorem dX12_due_7 : decode cX12_due 7 = .ok (.ireturn, 1) := by decide +kernel
theorem dX12_dusk_0 : decode cX12_dusk 0 = .ok (.aload_n 0, 1) := by decide +kernel
theorem dX12_dusk_1 : decode cX12_dusk 1 = .ok (.getfield 142, 3) := by decide +kernel
theorem dX12_dusk_4 : decode cX12_dusk 4 = .ok (.bipush 20, 2) := by decide +kernel
theorem dX12_dusk_6 : decode cX12_dusk 6 = .ok (.iadd, 1) := by decide +kernel
theorem dX12_dusk_7 : decode cX12_dusk 7 = .ok (.ireturn, 1) := by decide +kernel
theorem dX12_end_0 : decode cX12_end 0 = .ok (.aload_n 0, 1) := by decide +kernel
theorem dX12_end_1 : decode cX12_end 1 = .ok (.iconst 0, 1) := by decide +kernel
theorem dX12_end_2 : decode cX12_end 2 = .ok (.putfield 130, 3) := by decide +kernel
theorem dX12_end_5 : decode cX12_end 5 = .ok (.aload_n 0, 1) := by decide +kernel
theorem dX12_end_6 : decode cX12_end 6 = .ok (.iload_n 1, 1) := by decide +kernel
theorem dX12_end_7 : decode cX12_end 7 = .ok (.iconst 0, 1) := by decide +kernel
theorem dX12_end_8 : decode cX12_end 8 = .ok (.aload_n 0, 1) := by decide +kernel
theorem dX12_end_9 : decode cX12_end 9 = .ok (.getfield 172, 3) := by decide +kernel
theorem dX12_end_12 : decode cX12_end 12 = .ok (.invokevirtual 151, 3) := by decide +kernel
theorem dX12_end_15 : decode cX12_end 15 = .ok (.ifCond .ne 5, 3) := by decide +kernel
theorem dX12_end_18 : decode cX12_end 18 = .ok (.iconst 0, 1) := by decide +kernel
theorem dX12_end_19 : decode cX12_end 19 = .ok (.ireturn, 1) := by decide +kernel
theorem dX12_end_20 : decode cX12_end 20 = .ok (.aload_n 0, 1) := by decide +kernel
theorem dX12_end_21 : decode cX12_end 21 = .ok (.iload_n 1, 1) := by decide +kernel
theorem dX12_end_22 : decode cX12_end 22 = .ok (.putfield 172, 3) := by decide +kernel
theorem dX12_end_25 : decode cX12_end 25 = .ok (.iconst 1, 1) := by decide +kernel
theorem dX12_end_26 : decode cX12_end 26 = .ok (.ireturn, 1) := by decide +kernel
theorem dX12_endsThought_0 : decode cX12_endsThought 0 = .ok (.iconst 0, 1) := by decide +kernel
theorem dX12_endsThought_1 : decode cX12_endsThought 1 = .ok (.istore_n 1, 1) := by decide +kernel
theorem dX12_endsThought_2 : decode cX12_endsThought 2 = .ok (.iload_n 1, 1) := by decide +kernel
theorem dX12_endsThought_3 : decode cX12_endsThought 3 = .ok (.bipush 66, 2) := by decide +kernel
theorem dX12_endsThought_5 : decode cX12_endsThought 5 = .ok (.if_icmp .ge 21, 3) := by decide +kernel
theorem dX12_endsThought_8 : decode cX12_endsThought 8 = .ok (.aload_n 0, 1) := by decide +kernel
theorem dX12_endsThought_9 : decode cX12_endsThought 9 = .ok (.getfield 7, 3) := by decide +kernel
theorem dX12_endsThought_12 : decode cX12_endsThought 12 = .ok (.iload_n 1, 1) := by decide +kernel
theorem dX12_endsThought_13 : decode cX12_endsThought 13 = .ok (.aload_n 0, 1) := by decide +kernel
theorem dX12_endsThought_14 : decode cX12_endsThought 14 = .ok (.getfield 16, 3) := by decide +kernel
theorem dX12_endsThought_17 : decode cX12_endsThought 17 = .ok (.iload_n 1, 1) := by decide +kernel
theorem dX12_endsThought_18 : decode cX12_endsThought 18 = .ok (.iaload, 1) := by decide +kernel
theorem dX12_endsThought_19 : decode cX12_endsThought 19 = .ok (.iastore, 1) := by decide +kernel
theorem dX12_endsThought_20 : decode cX12_endsThought 20 = .ok (.iinc 1 1, 3) := by decide +kernel
theorem dX12_endsThought_23 : decode cX12_endsThought 23 = .ok (.goto (-21), 3) := by decide +kernel
theorem dX12_endsThought_26 : decode cX12_endsThought 26 = .ok (.aload_n 0, 1) := by decide +kernel
theorem dX12_endsThought_27 : decode cX12_endsThought 27 = .ok (.iconst 0, 1) := by decide +kernel
theorem dX12_endsThought_28 : decode cX12_endsThought 28 = .ok (.putfield 136, 3) := by decide +kernel
theorem dX12_endsThought_31 : decode cX12_endsThought 31 = .ok (.return_, 1) := by decide +kernel
theorem dX12_enviedBy_0 : decode cX12_enviedBy 0 = .ok (.iconst 0, 1) := by decide +kernel
theorem dX12_enviedBy_1 : decode cX12_enviedBy 1 = .ok (.istore_n 2, 1) := by decide +kernel
theorem dX12_enviedBy_2 : decode cX12_enviedBy 2 = .ok (.iconst 0, 1) := by decide +kernel
theorem dX12_enviedBy_3 : decode cX12_enviedBy 3 = .ok (.istore_n 3, 1) := by decide +kernel
theorem dX12_enviedBy_4 : decode cX12_enviedBy 4 = .ok (.iload_n 3, 1) := by decide +kernel
theorem dX12_enviedBy_5 : decode cX12_enviedBy 5 = .ok (.aload_n 0, 1) := by decide +kernel
theorem dX12_enviedBy_6 : decode cX12_enviedBy 6 = .ok (.getfield 148, 3) := by decide +kernel
theorem dX12_enviedBy_9 : decode cX12_enviedBy 9 = .ok (.if_icmp .ge 24, 3) := by decide +kernel
theorem dX12_enviedBy_12 : decode cX12_enviedBy 12 = .ok (.aload_n 0, 1) := by decide +kernel
theorem dX12_enviedBy_13 : decode cX12_enviedBy 13 = .ok (.iload_n 1, 1) := by decide +kernel
theorem dX12_enviedBy_14 : decode cX12_enviedBy 14 = .ok (.iload_n 3, 1) := by decide +kernel
theorem dX12_enviedBy_15 : decode cX12_enviedBy 15 = .ok (.invokevirtual 422, 3) := by decide +kernel
theorem dX12_enviedBy_18 : decode cX12_enviedBy 18 = .ok (.ifCond .eq 9, 3) := by decide +kernel
theorem dX12_enviedBy_21 : decode cX12_enviedBy 21 = .ok (.iload_n 2, 1) := by decide +kernel
theorem dX12_enviedBy_22 : decode cX12_enviedBy 22 = .ok (.iconst 1, 1) := by decide +kernel
theorem dX12_enviedBy_23 : decode cX12_enviedBy 23 = .ok (.iload_n 3, 1) := by decide +kernel
theorem dX12_enviedBy_24 : decode cX12_enviedBy 24 = .ok (.ishl, 1) := by decide +kernel
theorem dX12_enviedBy_25 : decode cX12_enviedBy 25 = .ok (.ior, 1) := by decide +kernel
theorem dX12_enviedBy_26 : decode cX12_enviedBy 26 = .ok (.istore_n 2, 1) := by decide +kernel
theorem dX12_enviedBy_27 : decode cX12_enviedBy 27 = .ok (.iinc 3 1, 3) := by decide +kernel
theorem dX12_enviedBy_30 : decode cX12_enviedBy 30 = .ok (.goto (-26), 3) := by decide +kernel
theorem dX12_enviedBy_33 : decode cX12_enviedBy 33 = .ok (.iload_n 2, 1) := by decide +kernel
theorem dX12_enviedBy_34 : decode cX12_enviedBy 34 = .ok (.ireturn, 1) := by decide +kernel
theorem dX12_errs_0 : decode cX12_errs 0 = .ok (.aload_n 0, 1) := by decide +kernel
theorem dX12_errs_1 : decode cX12_errs 1 = .ok (.iload_n 1, 1) := by decide +kernel
theorem dX12_errs_2 : decode cX12_errs 2 = .ok (.putfield 207, 3) := by decide +kernel
theorem dX12_errs_5 : decode cX12_errs 5 = .ok (.aload_n 0, 1) := by decide +kernel
theorem dX12_errs_6 : decode cX12_errs 6 = .ok (.aload_n 0, 1) := by decide +kernel
theorem dX12_errs_7 : decode cX12_errs 7 = .ok (.getfield 185, 3) := by decide +kernel
theorem dX12_errs_10 : decode cX12_errs 10 = .ok (.putfield 210, 3) := by decide +kernel
theorem dX12_errs_13 : decode cX12_errs 13 = .ok (.iconst (-1), 1) := by decide +kernel
theorem dX12_errs_14 : decode cX12_errs 14 = .ok (.ireturn, 1) := by decide +kernel
theorem dX12_fault_0 : decode cX12_fault 0 = .ok (.aload_n 0, 1) := by decide +kernel
theorem dX12_fault_1 : decode cX12_fault 1 = .ok (.iconst 0, 1) := by decide +kernel
theorem dX12_fault_2 : decode cX12_fault 2 = .ok (.putfield 130, 3) := by decide +kernel
theorem dX12_fault_5 : decode cX12_fault 5 = .ok (.iload_n 1, 1) := by decide +kernel
theorem dX12_fault_6 : decode cX12_fault 6 = .ok (.ifCond .ne 10, 3) := by decide +kernel
theorem dX12_fault_9 : decode cX12_fault 9 = .ok (.aload_n 0, 1) := by decide +kernel
theorem dX12_fault_10 : decode cX12_fault 10 = .ok (.getfield 330, 3) := by decide +kernel
theorem dX12_fault_13 : decode cX12_fault 13 = .ok (.goto 16, 3) := by decide +kernel
theorem dX12_fault_16 : decode cX12_fault 16 = .ok (.iload_n 1, 1) := by decide +kernel
theorem dX12_fault_17 : decode cX12_fault 17 = .ok (.iconst 1, 1) := by decide +kernel
theorem dX12_fault_18 : decode cX12_fault 18 = .ok (.if_icmp .ne 10, 3) := by decide +kernel
theorem dX12_fault_21 : decode cX12_fault 21 = .ok (.aload_n 0, 1) := by decide +kernel
theorem dX12_fault_22 : decode cX12_fault 22 = .ok (.getfield 70, 3) := by decide +kernel
theorem dX12_fault_25 : decode cX12_fault 25 = .ok (.goto 4, 3) := by decide +kernel
theorem dX12_fault_28 : decode cX12_fault 28 = .ok (.iconst (-1), 1) := by decide +kernel
theorem dX12_fault_29 : decode cX12_fault 29 = .ok (.ireturn, 1) := by decide +kernel
theorem dX12_feed_0 : decode cX12_feed 0 = .ok (.aload_n 0, 1) := by decide +kernel
theorem dX12_feed_1 : decode cX12_feed 1 = .ok (.iconst 0, 1) := by decide +kernel
theorem dX12_feed_2 : decode cX12_feed 2 = .ok (.putfield 130, 3) := by decide +kernel
theorem dX12_feed_5 : decode cX12_feed 5 = .ok (.aload_n 0, 1) := by decide +kernel
theorem dX12_feed_6 : decode cX12_feed 6 = .ok (.getfield 172, 3) := by decide +kernel
theorem dX12_feed_9 : decode cX12_feed 9 = .ok (.sipush 380, 3) := by decide +kernel
theorem dX12_feed_12 : decode cX12_feed 12 = .ok (.if_icmp .le 5, 3) := by decide +kernel
theorem dX12_feed_15 : decode cX12_feed 15 = .ok (.iconst (-1), 1) := by decide +kernel
theorem dX12_feed_16 : decode cX12_feed 16 = .ok (.ireturn, 1) := by decide +kernel
theorem dX12_feed_17 : decode cX12_feed 17 = .ok (.aload_n 0, 1) := by decide +kernel
theorem dX12_feed_18 : decode cX12_feed 18 = .ok (.iload_n 1, 1) := by decide +kernel
theorem dX12_feed_19 : decode cX12_feed 19 = .ok (.invokevirtual 175, 3) := by decide +kernel
theorem dX12_feed_22 : decode cX12_feed 22 = .ok (.aload_n 0, 1) := by decide +kernel
theorem dX12_feed_23 : decode cX12_feed 23 = .ok (.iload_n 2, 1) := by decide +kernel
theorem dX12_feed_24 : decode cX12_feed 24 = .ok (.invokevirtual 175, 3) := by decide +kernel
theorem dX12_feed_27 : decode cX12_feed 27 = .ok (.aload_n 0, 1) := by decide +kernel
theorem dX12_feed_28 : decode cX12_feed 28 = .ok (.iload_n 3, 1) := by decide +kernel
theorem dX12_feed_29 : decode cX12_feed 29 = .ok (.invokevirtual 175, 3) := by decide +kernel
theorem dX12_feed_32 : decode cX12_feed 32 = .ok (.aload_n 0, 1) := by decide +kernel
theorem dX12_feed_33 : decode cX12_feed 33 = .ok (.iload 4, 2) := by decide +kernel
theorem dX12_feed_35 : decode cX12_feed 35 = .ok (.invokevirtual 175, 3) := by decide +kernel
theorem dX12_feed_38 : decode cX12_feed 38 = .ok (.aload_n 0, 1) := by decide +kernel
theorem dX12_feed_39 : decode cX12_feed 39 = .ok (.iload 5, 2) := by decide +kernel
theorem dX12_feed_41 : decode cX12_feed 41 = .ok (.invokevirtual 175, 3) := by decide +kernel
theorem dX12_feed_44 : decode cX12_feed 44 = .ok (.aload_n 0, 1) := by decide +kernel
theorem dX12_feed_45 : decode cX12_feed 45 = .ok (.getfield 172, 3) := by decide +kernel
theorem dX12_feed_48 : decode cX12_feed 48 = .ok (.ireturn, 1) := by decide +kernel
theorem dX12_findsChances_0 : decode cX12_findsChances 0 = .ok (.iconst 0, 1) := by decide +kernel
theorem dX12_findsChances_1 : decode cX12_findsChances 1 = .ok (.istore_n 2, 1) := by decide +kernel
theorem dX12_findsChances_2 : decode cX12_findsChances 2 = .ok (.iload_n 2, 1) := by decide +kernel
theorem dX12_findsChances_3 : decode cX12_findsChances 3 = .ok (.bipush 9, 2) := by decide +kernel
theorem dX12_findsChances_5 : decode cX12_findsChances 5 = .ok (.if_icmp .gt 32, 3) := by decide +kernel
theorem dX12_findsChances_8 : decode cX12_findsChances 8 = .ok (.aload_n 0, 1) := by decide +kernel
theorem dX12_findsChances_9 : decode cX12_findsChances 9 = .ok (.getfield 114, 3) := by decide +kernel
theorem dX12_findsChances_12 : decode cX12_findsChances 12 = .ok (.iload_n 2, 1) := by decide +kernel
theorem dX12_findsChances_13 : decode cX12_findsChances 13 = .ok (.iload_n 2, 1) := by decide +kernel
theorem dX12_findsChances_14 : decode cX12_findsChances 14 = .ok (.aload_n 0, 1) := by decide +kernel
theorem dX12_findsChances_15 : decode cX12_findsChances 15 = .ok (.getfield 7, 3) := by decide +kernel
theorem dX12_findsChances_18 : decode cX12_findsChances 18 = .ok (.iconst 4, 1) := by decide +kernel
theorem dX12_findsChances_19 : decode cX12_findsChances 19 = .ok (.iaload, 1) := by decide +kernel
theorem dX12_findsChances_20 : decode cX12_findsChances 20 = .ok (.if_icmp .ne 9, 3) := by decide +kernel
theorem dX12_findsChances_23 : decode cX12_findsChances 23 = .ok (.ldc_w 507, 3) := by decide +kernel
theorem dX12_findsChances_26 : decode cX12_findsChances 26 = .ok (.goto 4, 3) := by decide +kernel
theorem dX12_findsChances_29 : decode cX12_findsChances 29 = .ok (.iconst 0, 1) := by decide +kernel
theorem dX12_findsChances_30 : decode cX12_findsChances 30 = .ok (.iastore, 1) := by decide +kernel
theorem dX12_findsChances_31 : decode cX12_findsChances 31 = .ok (.iinc 2 1, 3) := by decide +kernel
theorem dX12_findsChances_34 : decode cX12_findsChances 34 = .ok (.goto (-32), 3) := by decide +kernel
theorem dX12_findsChances_37 : decode cX12_findsChances 37 = .ok (.iconst 0, 1) := by decide +kernel
theorem dX12_findsChances_38 : decode cX12_findsChances 38 = .ok (.istore_n 2, 1) := by decide +kernel
theorem dX12_findsChances_39 : decode cX12_findsChances 39 = .ok (.iload_n 2, 1) := by decide +kernel
theorem dX12_findsChances_40 : decode cX12_findsChances 40 = .ok (.iload_n 1, 1) := by decide +kernel
theorem dX12_findsChances_41 : decode cX12_findsChances 41 = .ok (.if_icmp .ge 20, 3) := by decide +kernel
theorem dX12_findsChances_44 : decode cX12_findsChances 44 = .ok (.aload_n 0, 1) := by decide +kernel
theorem dX12_findsChances_45 : decode cX12_findsChances 45 = .ok (.getfield 166, 3) := by decide +kernel
theorem dX12_findsChances_48 : decode cX12_findsChances 48 = .ok (.ifCond .le 13, 3) := by decide +kernel
theorem dX12_findsChances_51 : decode cX12_findsChances 51 = .ok (.aload_n 0, 1) := by decide +kernel
theorem dX12_findsChances_52 : decode cX12_findsChances 52 = .ok (.invokevirtual 508, 3) := by decide +kernel
theorem dX12_findsChances_55 : decode cX12_findsChances 55 = .ok (.iinc 2 1, 3) := by decide +kernel
theorem dX12_findsChances_58 : decode cX12_findsChances 58 = .ok (.goto (-19), 3) := by decide +kernel
theorem dX12_findsChances_61 : decode cX12_findsChances 61 = .ok (.return_, 1) := by decide +kernel
theorem dX12_findsFar_0 : decode cX12_findsFar 0 = .ok (.iconst 0, 1) := by decide +kernel
theorem dX12_findsFar_1 : decode cX12_findsFar 1 = .ok (.istore_n 2, 1) := by decide +kernel
theorem dX12_findsFar_2 : decode cX12_findsFar 2 = .ok (.iload_n 2, 1) := by decide +kernel
theorem dX12_findsFar_3 : decode cX12_findsFar 3 = .ok (.bipush 100, 2) := by decide +kernel
theorem dX12_findsFar_5 : decode cX12_findsFar 5 = .ok (.if_icmp .ge 33, 3) := by decide +kernel
theorem dX12_findsFar_8 : decode cX12_findsFar 8 = .ok (.aload_n 0, 1) := by decide +kernel
theorem dX12_findsFar_9 : decode cX12_findsFar 9 = .ok (.getfield 101, 3) := by decide +kernel
theorem dX12_findsFar_12 : decode cX12_findsFar 12 = .ok (.iload_n 2, 1) := by decide +kernel
theorem dX12_findsFar_13 : decode cX12_findsFar 13 = .ok (.iload_n 2, 1) := by decide +kernel
theorem dX12_findsFar_14 : decode cX12_findsFar 14 = .ok (.bipush 10, 2) := by decide +kernel
theorem dX12_findsFar_16 : decode cX12_findsFar 16 = .ok (.idiv, 1) := by decide +kernel
theorem dX12_findsFar_17 : decode cX12_findsFar 17 = .ok (.iload_n 2, 1) := by decide +kernel
theorem dX12_findsFar_18 : decode cX12_findsFar 18 = .ok (.bipush 10, 2) := by decide +kernel
theorem dX12_findsFar_20 : decode cX12_findsFar 20 = .ok (.irem, 1) := by decide +kernel
theorem dX12_findsFar_21 : decode cX12_findsFar 21 = .ok (.if_icmp .ne 7, 3) := by decide +kernel
theorem dX12_findsFar_24 : decode cX12_findsFar 24 = .ok (.iconst 0, 1) := by decide +kernel
theorem dX12_findsFar_25 : decode cX12_findsFar 25 = .ok (.goto 6, 3) := by decide +kernel
theorem dX12_findsFar_28 : decode cX12_findsFar 28 = .ok (.ldc_w 349, 3) := by decide +kernel
theorem dX12_findsFar_31 : decode cX12_findsFar 31 = .ok (.iastore, 1) := by decide +kernel
theorem dX12_findsFar_32 : decode cX12_findsFar 32 = .ok (.iinc 2 1, 3) := by decide +kernel
theorem dX12_findsFar_35 : decode cX12_findsFar 35 = .ok (.goto (-33), 3) := by decide +kernel
theorem dX12_findsFar_38 : decode cX12_findsFar 38 = .ok (.iconst 0, 1) := by decide +kernel
theorem dX12_findsFar_39 : decode cX12_findsFar 39 = .ok (.istore_n 2, 1) := by decide +kernel
theorem dX12_findsFar_40 : decode cX12_findsFar 40 = .ok (.iload_n 2, 1) := by decide +kernel
theorem dX12_findsFar_41 : decode cX12_findsFar 41 = .ok (.aload_n 0, 1) := by decide +kernel
theorem dX12_findsFar_42 : decode cX12_findsFar 42 = .ok (.getfield 321, 3) := by decide +kernel
theorem dX12_findsFar_45 : decode cX12_findsFar 45 = .ok (.if_icmp .ge 123, 3) := by decide +kernel
theorem dX12_findsFar_48 : decode cX12_findsFar 48 = .ok (.iconst 4, 1) := by decide +kernel
theorem dX12_findsFar_49 : decode cX12_findsFar 49 = .ok (.iload_n 2, 1) := by decide +kernel
theorem dX12_findsFar_50 : decode cX12_findsFar 50 = .ok (.imul, 1) := by decide +kernel
theorem dX12_findsFar_51 : decode cX12_findsFar 51 = .ok (.istore_n 3, 1) := by decide +kernel
theorem dX12_findsFar_52 : decode cX12_findsFar 52 = .ok (.iload_n 1, 1) := by decide +kernel
theorem dX12_findsFar_53 : decode cX12_findsFar 53 = .ok (.aload_n 0, 1) := by decide +kernel
theorem dX12_findsFar_54 : decode cX12_findsFar 54 = .ok (.getfield 74, 3) := by decide +kernel
theorem dX12_findsFar_57 : decode cX12_findsFar 57 = .ok (.iload_n 3, 1) := by decide +kernel
theorem dX12_findsFar_58 : decode cX12_findsFar 58 = .ok (.iconst 3, 1) := by decide +kernel
theorem dX12_findsFar_59 : decode cX12_findsFar 59 = .ok (.iadd, 1) := by decide +kernel
theorem dX12_findsFar_60 : decode cX12_findsFar 60 = .ok (.iaload, 1) := by decide +kernel
theorem dX12_findsFar_61 : decode cX12_findsFar 61 = .ok (.if_icmp .le 6, 3) := by decide +kernel
theorem dX12_findsFar_64 : decode cX12_findsFar 64 = .ok (.goto 98, 3) := by decide +kernel
theorem dX12_findsFar_67 : decode cX12_findsFar 67 = .ok (.bipush 10, 2) := by decide +kernel
theorem dX12_findsFar_69 : decode cX12_findsFar 69 = .ok (.aload_n 0, 1) := by decide +kernel
theorem dX12_findsFar_70 : decode cX12_findsFar 70 = .ok (.getfield 74, 3) := by decide +kernel
theorem dX12_findsFar_73 : decode cX12_findsFar 73 = .ok (.iload_n 3, 1) := by decide +kernel
theorem dX12_findsFar_74 : decode cX12_findsFar 74 = .ok (.iconst 0, 1) := by decide +kernel
theorem dX12_findsFar_75 : decode cX12_findsFar 75 = .ok (.iadd, 1) := by decide +kernel
theorem dX12_findsFar_76 : decode cX12_findsFar 76 = .ok (.iaload, 1) := by decide +kernel
theorem dX12_findsFar_77 : decode cX12_findsFar 77 = .ok (.imul, 1) := by decide +kernel
theorem dX12_findsFar_78 : decode cX12_findsFar 78 = .ok (.aload_n 0, 1) := by decide +kernel
theorem dX12_findsFar_79 : decode cX12_findsFar 79 = .ok (.getfield 74, 3) := by decide +kernel
theorem dX12_findsFar_82 : decode cX12_findsFar 82 = .ok (.iload_n 3, 1) := by decide +kernel
theorem dX12_findsFar_83 : decode cX12_findsFar 83 = .ok (.iconst 1, 1) := by decide +kernel
theorem dX12_findsFar_84 : decode cX12_findsFar 84 = .ok (.iadd, 1) := by decide +kernel
theorem dX12_findsFar_85 : decode cX12_findsFar 85 = .ok (.iaload, 1) := by decide +kernel
theorem dX12_findsFar_86 : decode cX12_findsFar 86 = .ok (.iadd, 1) := by decide +kernel
theorem dX12_findsFar_87 : decode cX12_findsFar 87 = .ok (.istore 4, 2) := by decide +kernel
theorem dX12_findsFar_89 : decode cX12_findsFar 89 = .ok (.bipush 10, 2) := by decide +kernel
theorem dX12_findsFar_91 : decode cX12_findsFar 91 = .ok (.aload_n 0, 1) := by decide +kernel
theorem dX12_findsFar_92 : decode cX12_findsFar 92 = .ok (.getfield 74, 3) := by decide +kernel
theorem dX12_findsFar_95 : decode cX12_findsFar 95 = .ok (.iload_n 3, 1) := by decide +kernel
theorem dX12_findsFar_96 : decode cX12_findsFar 96 = .ok (.iconst 1, 1) := by decide +kernel
theorem dX12_findsFar_97 : decode cX12_findsFar 97 = .ok (.iadd, 1) := by decide +kernel
theorem dX12_findsFar_98 : decode cX12_findsFar 98 = .ok (.iaload, 1) := by decide +kernel
theorem dX12_findsFar_99 : decode cX12_findsFar 99 = .ok (.imul, 1) := by decide +kernel
theorem dX12_findsFar_100 : decode cX12_findsFar 100 = .ok (.aload_n 0, 1) := by decide +kernel
theorem dX12_findsFar_101 : decode cX12_findsFar 101 = .ok (.getfield 74, 3) := by decide +kernel
theorem dX12_findsFar_104 : decode cX12_findsFar 104 = .ok (.iload_n 3, 1) := by decide +kernel
theorem dX12_findsFar_105 : decode cX12_findsFar 105 = .ok (.iconst 0, 1) := by decide +kernel
theorem dX12_findsFar_106 : decode cX12_findsFar 106 = .ok (.iadd, 1) := by decide +kernel
theorem dX12_findsFar_107 : decode cX12_findsFar 107 = .ok (.iaload, 1) := by decide +kernel
theorem dX12_findsFar_108 : decode cX12_findsFar 108 = .ok (.iadd, 1) := by decide +kernel
theorem dX12_findsFar_109 : decode cX12_findsFar 109 = .ok (.istore 5, 2) := by decide +kernel
theorem dX12_findsFar_111 : decode cX12_findsFar 111 = .ok (.aload_n 0, 1) := by decide +kernel
theorem dX12_findsFar_112 : decode cX12_findsFar 112 = .ok (.getfield 74, 3) := by decide +kernel
theorem dX12_findsFar_115 : decode cX12_findsFar 115 = .ok (.iload_n 3, 1) := by decide +kernel
theorem dX12_findsFar_116 : decode cX12_findsFar 116 = .ok (.iconst 2, 1) := by decide +kernel
theorem dX12_findsFar_117 : decode cX12_findsFar 117 = .ok (.iadd, 1) := by decide +kernel
theorem dX12_findsFar_118 : decode cX12_findsFar 118 = .ok (.iaload, 1) := by decide +kernel
theorem dX12_findsFar_119 : decode cX12_findsFar 119 = .ok (.aload_n 0, 1) := by decide +kernel
theorem dX12_findsFar_120 : decode cX12_findsFar 120 = .ok (.getfield 101, 3) := by decide +kernel
theorem dX12_findsFar_123 : decode cX12_findsFar 123 = .ok (.iload 4, 2) := by decide +kernel
theorem dX12_findsFar_125 : decode cX12_findsFar 125 = .ok (.iaload, 1) := by decide +kernel
theorem dX12_findsFar_126 : decode cX12_findsFar 126 = .ok (.if_icmp .lt 6, 3) := by decide +kernel
theorem dX12_findsFar_129 : decode cX12_findsFar 129 = .ok (.goto 33, 3) := by decide +kernel
theorem dX12_findsFar_132 : decode cX12_findsFar 132 = .ok (.aload_n 0, 1) := by decide +kernel
theorem dX12_findsFar_133 : decode cX12_findsFar 133 = .ok (.getfield 101, 3) := by decide +kernel
theorem dX12_findsFar_136 : decode cX12_findsFar 136 = .ok (.iload 4, 2) := by decide +kernel
theorem dX12_findsFar_138 : decode cX12_findsFar 138 = .ok (.aload_n 0, 1) := by decide +kernel
theorem dX12_findsFar_139 : decode cX12_findsFar 139 = .ok (.getfield 74, 3) := by decide +kernel
theorem dX12_findsFar_142 : decode cX12_findsFar 142 = .ok (.iload_n 3, 1) := by decide +kernel
theorem dX12_findsFar_143 : decode cX12_findsFar 143 = .ok (.iconst 2, 1) := by decide +kernel
theorem dX12_findsFar_144 : decode cX12_findsFar 144 = .ok (.iadd, 1) := by decide +kernel
theorem dX12_findsFar_145 : decode cX12_findsFar 145 = .ok (.iaload, 1) := by decide +kernel
theorem dX12_findsFar_146 : decode cX12_findsFar 146 = .ok (.iastore, 1) := by decide +kernel
theorem dX12_findsFar_147 : decode cX12_findsFar 147 = .ok (.aload_n 0, 1) := by decide +kernel
theorem dX12_findsFar_148 : decode cX12_findsFar 148 = .ok (.getfield 101, 3) := by decide +kernel
theorem dX12_findsFar_151 : decode cX12_findsFar 151 = .ok (.iload 5, 2) := by decide +kernel
theorem dX12_findsFar_153 : decode cX12_findsFar 153 = .ok (.aload_n 0, 1) := by decide +kernel
theorem dX12_findsFar_154 : decode cX12_findsFar 154 = .ok (.getfield 74, 3) := by decide +kernel
theorem dX12_findsFar_157 : decode cX12_findsFar 157 = .ok (.iload_n 3, 1) := by decide +kernel
theorem dX12_findsFar_158 : decode cX12_findsFar 158 = .ok (.iconst 2, 1) := by decide +kernel
theorem dX12_findsFar_159 : decode cX12_findsFar 159 = .ok (.iadd, 1) := by decide +kernel
theorem dX12_findsFar_160 : decode cX12_findsFar 160 = .ok (.iaload, 1) := by decide +kernel
theorem dX12_findsFar_161 : decode cX12_findsFar 161 = .ok (.iastore, 1) := by decide +kernel
theorem dX12_findsFar_162 : decode cX12_findsFar 162 = .ok (.iinc 2 1, 3) := by decide +kernel
theorem dX12_findsFar_165 : decode cX12_findsFar 165 = .ok (.goto (-125), 3) := by decide +kernel
theorem dX12_findsFar_168 : decode cX12_findsFar 168 = .ok (.iconst 0, 1) := by decide +kernel
theorem dX12_findsFar_169 : decode cX12_findsFar 169 = .ok (.istore_n 2, 1) := by decide +kernel
theorem dX12_findsFar_170 : decode cX12_findsFar 170 = .ok (.iload_n 2, 1) := by decide +kernel
theorem dX12_findsFar_171 : decode cX12_findsFar 171 = .ok (.aload_n 0, 1) := by decide +kernel
theorem dX12_findsFar_172 : decode cX12_findsFar 172 = .ok (.getfield 148, 3) := by decide +kernel
theorem dX12_findsFar_175 : decode cX12_findsFar 175 = .ok (.if_icmp .ge 100, 3) := by decide +kernel
theorem dX12_findsFar_178 : decode cX12_findsFar 178 = .ok (.iconst 0, 1) := by decide +kernel
theorem dX12_findsFar_179 : decode cX12_findsFar 179 = .ok (.istore_n 3, 1) := by decide +kernel
theorem dX12_findsFar_180 : decode cX12_findsFar 180 = .ok (.iload_n 3, 1) := by decide +kernel
theorem dX12_findsFar_181 : decode cX12_findsFar 181 = .ok (.aload_n 0, 1) := by decide +kernel
theorem dX12_findsFar_182 : decode cX12_findsFar 182 = .ok (.getfield 148, 3) := by decide +kernel
theorem dX12_findsFar_185 : decode cX12_findsFar 185 = .ok (.if_icmp .ge 84, 3) := by decide +kernel
theorem dX12_findsFar_188 : decode cX12_findsFar 188 = .ok (.iconst 0, 1) := by decide +kernel
theorem dX12_findsFar_189 : decode cX12_findsFar 189 = .ok (.istore 4, 2) := by decide +kernel
theorem dX12_findsFar_191 : decode cX12_findsFar 191 = .ok (.iload 4, 2) := by decide +kernel
theorem dX12_findsFar_193 : decode cX12_findsFar 193 = .ok (.aload_n 0, 1) := by decide +kernel
theorem dX12_findsFar_194 : decode cX12_findsFar 194 = .ok (.getfield 148, 3) := by decide +kernel
theorem dX12_findsFar_197 : decode cX12_findsFar 197 = .ok (.if_icmp .ge 66, 3) := by decide +kernel
theorem dX12_findsFar_200 : decode cX12_findsFar 200 = .ok (.aload_n 0, 1) := by decide +kernel
theorem dX12_findsFar_201 : decode cX12_findsFar 201 = .ok (.getfield 101, 3) := by decide +kernel
theorem dX12_findsFar_204 : decode cX12_findsFar 204 = .ok (.bipush 10, 2) := by decide +kernel
theorem dX12_findsFar_206 : decode cX12_findsFar 206 = .ok (.iload_n 3, 1) := by decide +kernel
theorem dX12_findsFar_207 : decode cX12_findsFar 207 = .ok (.imul, 1) := by decide +kernel
theorem dX12_findsFar_208 : decode cX12_findsFar 208 = .ok (.iload_n 2, 1) := by decide +kernel
theorem dX12_findsFar_209 : decode cX12_findsFar 209 = .ok (.iadd, 1) := by decide +kernel
theorem dX12_findsFar_210 : decode cX12_findsFar 210 = .ok (.iaload, 1) := by decide +kernel
theorem dX12_findsFar_211 : decode cX12_findsFar 211 = .ok (.aload_n 0, 1) := by decide +kernel
theorem dX12_findsFar_212 : decode cX12_findsFar 212 = .ok (.getfield 101, 3) := by decide +kernel
theorem dX12_findsFar_215 : decode cX12_findsFar 215 = .ok (.bipush 10, 2) := by decide +kernel
theorem dX12_findsFar_217 : decode cX12_findsFar 217 = .ok (.iload_n 2, 1) := by decide +kernel
theorem dX12_findsFar_218 : decode cX12_findsFar 218 = .ok (.imul, 1) := by decide +kernel
theorem dX12_findsFar_219 : decode cX12_findsFar 219 = .ok (.iload 4, 2) := by decide +kernel
theorem dX12_findsFar_221 : decode cX12_findsFar 221 = .ok (.iadd, 1) := by decide +kernel
theorem dX12_findsFar_222 : decode cX12_findsFar 222 = .ok (.iaload, 1) := by decide +kernel
theorem dX12_findsFar_223 : decode cX12_findsFar 223 = .ok (.iadd, 1) := by decide +kernel
theorem dX12_findsFar_224 : decode cX12_findsFar 224 = .ok (.istore 5, 2) := by decide +kernel
theorem dX12_findsFar_226 : decode cX12_findsFar 226 = .ok (.iload 5, 2) := by decide +kernel
theorem dX12_findsFar_228 : decode cX12_findsFar 228 = .ok (.aload_n 0, 1) := by decide +kernel
theorem dX12_findsFar_229 : decode cX12_findsFar 229 = .ok (.getfield 101, 3) := by decide +kernel
theorem dX12_findsFar_232 : decode cX12_findsFar 232 = .ok (.bipush 10, 2) := by decide +kernel
theorem dX12_findsFar_234 : decode cX12_findsFar 234 = .ok (.iload_n 3, 1) := by decide +kernel
theorem dX12_findsFar_235 : decode cX12_findsFar 235 = .ok (.imul, 1) := by decide +kernel
theorem dX12_findsFar_236 : decode cX12_findsFar 236 = .ok (.iload 4, 2) := by decide +kernel
theorem dX12_findsFar_238 : decode cX12_findsFar 238 = .ok (.iadd, 1) := by decide +kernel
theorem dX12_findsFar_239 : decode cX12_findsFar 239 = .ok (.iaload, 1) := by decide +kernel
theorem dX12_findsFar_240 : decode cX12_findsFar 240 = .ok (.if_icmp .ge 17, 3) := by decide +kernel
theorem dX12_findsFar_243 : decode cX12_findsFar 243 = .ok (.aload_n 0, 1) := by decide +kernel
theorem dX12_findsFar_244 : decode cX12_findsFar 244 = .ok (.getfield 101, 3) := by decide +kernel
theorem dX12_findsFar_247 : decode cX12_findsFar 247 = .ok (.bipush 10, 2) := by decide +kernel
theorem dX12_findsFar_249 : decode cX12_findsFar 249 = .ok (.iload_n 3, 1) := by decide +kernel
theorem dX12_findsFar_250 : decode cX12_findsFar 250 = .ok (.imul, 1) := by decide +kernel
theorem dX12_findsFar_251 : decode cX12_findsFar 251 = .ok (.iload 4, 2) := by decide +kernel
theorem dX12_findsFar_253 : decode cX12_findsFar 253 = .ok (.iadd, 1) := by decide +kernel
theorem dX12_findsFar_254 : decode cX12_findsFar 254 = .ok (.iload 5, 2) := by decide +kernel
theorem dX12_findsFar_256 : decode cX12_findsFar 256 = .ok (.iastore, 1) := by decide +kernel
theorem dX12_findsFar_257 : decode cX12_findsFar 257 = .ok (.iinc 4 1, 3) := by decide +kernel
theorem dX12_findsFar_260 : decode cX12_findsFar 260 = .ok (.goto (-69), 3) := by decide +kernel
theorem dX12_findsFar_263 : decode cX12_findsFar 263 = .ok (.iinc 3 1, 3) := by decide +kernel
theorem dX12_findsFar_266 : decode cX12_findsFar 266 = .ok (.goto (-86), 3) := by decide +kernel
theorem dX12_findsFar_269 : decode cX12_findsFar 269 = .ok (.iinc 2 1, 3) := by decide +kernel
theorem dX12_findsFar_272 : decode cX12_findsFar 272 = .ok (.goto (-102), 3) := by decide +kernel
theorem dX12_findsFar_275 : decode cX12_findsFar 275 = .ok (.return_, 1) := by decide +kernel
theorem dX12_greater_0 : decode cX12_greater 0 = .ok (.iload_n 1, 1) := by decide +kernel
theorem dX12_greater_1 : decode cX12_greater 1 = .ok (.iload_n 2, 1) := by decide +kernel
theorem dX12_greater_2 : decode cX12_greater 2 = .ok (.if_icmp .le 7, 3) := by decide +kernel
theorem dX12_greater_5 : decode cX12_greater 5 = .ok (.iload_n 1, 1) := by decide +kernel
theorem dX12_greater_6 : decode cX12_greater 6 = .ok (.goto 4, 3) := by decide +kernel
theorem dX12_greater_9 : decode cX12_greater 9 = .ok (.iload_n 2, 1) := by decide +kernel
theorem dX12_greater_10 : decode cX12_greater 10 = .ok (.ireturn, 1) := by decide +kernel
theorem dX12_held_0 : decode cX12_held 0 = .ok (.iload_n 1, 1) := by decide +kernel
theorem dX12_held_1 : decode cX12_held 1 = .ok (.iload_n 2, 1) := by decide +kernel
theorem dX12_held_2 : decode cX12_held 2 = .ok (.if_icmp .ge 7, 3) := by decide +kernel
theorem dX12_held_5 : decode cX12_held 5 = .ok (.iload_n 2, 1) := by decide +kernel
theorem dX12_held_6 : decode cX12_held 6 = .ok (.goto 13, 3) := by decide +kernel
theorem dX12_held_9 : decode cX12_held 9 = .ok (.iload_n 1, 1) := by decide +kernel
theorem dX12_held_10 : decode cX12_held 10 = .ok (.iload_n 3, 1) := by decide +kernel
theorem dX12_held_11 : decode cX12_held 11 = .ok (.if_icmp .le 7, 3) := by decide +kernel
theorem dX12_held_14 : decode cX12_held 14 = .ok (.iload_n 3, 1) := by decide +kernel
theorem dX12_held_15 : decode cX12_held 15 = .ok (.goto 4, 3) := by decide +kernel
theorem dX12_held_18 : decode cX12_held 18 = .ok (.iload_n 1, 1) := by decide +kernel
theorem dX12_held_19 : decode cX12_held 19 = .ok (.ireturn, 1) := by decide +kernel
theorem dX12_highest_0 : decode cX12_highest 0 = .ok (.iconst (-1), 1) := by decide +kernel
theorem dX12_highest_1 : decode cX12_highest 1 = .ok (.istore_n 2, 1) := by decide +kernel
theorem dX12_highest_2 : decode cX12_highest 2 = .ok (.iconst 0, 1) := by decide +kernel
theorem dX12_highest_3 : decode cX12_highest 3 = .ok (.istore_n 3, 1) := by decide +kernel
theorem dX12_highest_4 : decode cX12_highest 4 = .ok (.iload_n 3, 1) := by decide +kernel
theorem dX12_highest_5 : decode cX12_highest 5 = .ok (.aload_n 0, 1) := by decide +kernel
theorem dX12_highest_6 : decode cX12_highest 6 = .ok (.getfield 148, 3) := by decide +kernel
theorem dX12_highest_9 : decode cX12_highest 9 = .ok (.if_icmp .ge 45, 3) := by decide +kernel
theorem dX12_highest_12 : decode cX12_highest 12 = .ok (.iload_n 3, 1) := by decide +kernel
theorem dX12_highest_13 : decode cX12_highest 13 = .ok (.iload_n 1, 1) := by decide +kernel
theorem dX12_highest_14 : decode cX12_highest 14 = .ok (.if_icmp .eq 34, 3) := by decide +kernel
theorem dX12_highest_17 : decode cX12_highest 17 = .ok (.aload_n 0, 1) := by decide +kernel
theorem dX12_highest_18 : decode cX12_highest 18 = .ok (.getfield 25, 3) := by decide +kernel
theorem dX12_highest_21 : decode cX12_highest 21 = .ok (.iload_n 3, 1) := by decide +kernel
theorem dX12_highest_22 : decode cX12_highest 22 = .ok (.iaload, 1) := by decide +kernel
theorem dX12_highest_23 : decode cX12_highest 23 = .ok (.ifCond .le 25, 3) := by decide +kernel
theorem dX12_highest_26 : decode cX12_highest 26 = .ok (.iload_n 2, 1) := by decide +kernel
theorem dX12_highest_27 : decode cX12_highest 27 = .ok (.iconst (-1), 1) := by decide +kernel
theorem dX12_highest_28 : decode cX12_highest 28 = .ok (.if_icmp .eq 18, 3) := by decide +kernel
theorem dX12_highest_31 : decode cX12_highest 31 = .ok (.aload_n 0, 1) := by decide +kernel
theorem dX12_highest_32 : decode cX12_highest 32 = .ok (.getfield 25, 3) := by decide +kernel
theorem dX12_highest_35 : decode cX12_highest 35 = .ok (.iload_n 3, 1) := by decide +kernel
theorem dX12_highest_36 : decode cX12_highest 36 = .ok (.iaload, 1) := by decide +kernel
theorem dX12_highest_37 : decode cX12_highest 37 = .ok (.aload_n 0, 1) := by decide +kernel
theorem dX12_highest_38 : decode cX12_highest 38 = .ok (.getfield 25, 3) := by decide +kernel
theorem dX12_highest_41 : decode cX12_highest 41 = .ok (.iload_n 2, 1) := by decide +kernel
theorem dX12_highest_42 : decode cX12_highest 42 = .ok (.iaload, 1) := by decide +kernel
theorem dX12_highest_43 : decode cX12_highest 43 = .ok (.if_icmp .le 5, 3) := by decide +kernel
theorem dX12_highest_46 : decode cX12_highest 46 = .ok (.iload_n 3, 1) := by decide +kernel
theorem dX12_highest_47 : decode cX12_highest 47 = .ok (.istore_n 2, 1) := by decide +kernel
theorem dX12_highest_48 : decode cX12_highest 48 = .ok (.iinc 3 1, 3) := by decide +kernel
theorem dX12_highest_51 : decode cX12_highest 51 = .ok (.goto (-47), 3) := by decide +kernel
theorem dX12_highest_54 : decode cX12_highest 54 = .ok (.iload_n 2, 1) := by decide +kernel
theorem dX12_highest_55 : decode cX12_highest 55 = .ok (.ireturn, 1) := by decide +kernel
theorem dX12_isBetween_0 : decode cX12_isBetween 0 = .ok (.iload_n 1, 1) := by decide +kernel
theorem dX12_isBetween_1 : decode cX12_isBetween 1 = .ok (.bipush 8, 2) := by decide +kernel
theorem dX12_isBetween_3 : decode cX12_isBetween 3 = .ok (.irem, 1) := by decide +kernel
theorem dX12_isBetween_4 : decode cX12_isBetween 4 = .ok (.iload_n 2, 1) := by decide +kernel
theorem dX12_isBetween_5 : decode cX12_isBetween 5 = .ok (.bipush 8, 2) := by decide +kernel
theorem dX12_isBetween_7 : decode cX12_isBetween 7 = .ok (.irem, 1) := by decide +kernel
theorem dX12_isBetween_8 : decode cX12_isBetween 8 = .ok (.isub, 1) := by decide +kernel
theorem dX12_isBetween_9 : decode cX12_isBetween 9 = .ok (.istore 4, 2) := by decide +kernel
theorem dX12_isBetween_11 : decode cX12_isBetween 11 = .ok (.iload_n 1, 1) := by decide +kernel
theorem dX12_isBetween_12 : decode cX12_isBetween 12 = .ok (.bipush 8, 2) := by decide +kernel
theorem dX12_isBetween_14 : decode cX12_isBetween 14 = .ok (.idiv, 1) := by decide +kernel
theorem dX12_isBetween_15 : decode cX12_isBetween 15 = .ok (.iload_n 2, 1) := by decide +kernel
theorem dX12_isBetween_16 : decode cX12_isBetween 16 = .ok (.bipush 8, 2) := by decide +kernel
theorem dX12_isBetween_18 : decode cX12_isBetween 18 = .ok (.idiv, 1) := by decide +kernel
theorem dX12_isBetween_19 : decode cX12_isBetween 19 = .ok (.isub, 1) := by decide +kernel
theorem dX12_isBetween_20 : decode cX12_isBetween 20 = .ok (.istore 5, 2) := by decide +kernel
theorem dX12_isBetween_22 : decode cX12_isBetween 22 = .ok (.iload_n 3, 1) := by decide +kernel
theorem dX12_isBetween_23 : decode cX12_isBetween 23 = .ok (.bipush 8, 2) := by decide +kernel
theorem dX12_isBetween_25 : decode cX12_isBetween 25 = .ok (.irem, 1) := by decide +kernel
theorem dX12_isBetween_26 : decode cX12_isBetween 26 = .ok (.iload_n 2, 1) := by decide +kernel
theorem dX12_isBetween_27 : decode cX12_isBetween 27 = .ok (.bipush 8, 2) := by decide +kernel
theorem dX12_isBetween_29 : decode cX12_isBetween 29 = .ok (.irem, 1) := by decide +kernel
theorem dX12_isBetween_30 : decode cX12_isBetween 30 = .ok (.isub, 1) := by decide +kernel
theorem dX12_isBetween_31 : decode cX12_isBetween 31 = .ok (.istore 6, 2) := by decide +kernel
theorem dX12_isBetween_33 : decode cX12_isBetween 33 = .ok (.iload_n 3, 1) := by decide +kernel
theorem dX12_isBetween_34 : decode cX12_isBetween 34 = .ok (.bipush 8, 2) := by decide +kernel
theorem dX12_isBetween_36 : decode cX12_isBetween 36 = .ok (.idiv, 1) := by decide +kernel
theorem dX12_isBetween_37 : decode cX12_isBetween 37 = .ok (.iload_n 2, 1) := by decide +kernel
theorem dX12_isBetween_38 : decode cX12_isBetween 38 = .ok (.bipush 8, 2) := by decide +kernel
theorem dX12_isBetween_40 : decode cX12_isBetween 40 = .ok (.idiv, 1) := by decide +kernel
theorem dX12_isBetween_41 : decode cX12_isBetween 41 = .ok (.isub, 1) := by decide +kernel
theorem dX12_isBetween_42 : decode cX12_isBetween 42 = .ok (.istore 7, 2) := by decide +kernel
theorem dX12_isBetween_44 : decode cX12_isBetween 44 = .ok (.iload 4, 2) := by decide +kernel
theorem dX12_isBetween_46 : decode cX12_isBetween 46 = .ok (.iload 7, 2) := by decide +kernel
theorem dX12_isBetween_48 : decode cX12_isBetween 48 = .ok (.imul, 1) := by decide +kernel
theorem dX12_isBetween_49 : decode cX12_isBetween 49 = .ok (.iload 5, 2) := by decide +kernel
theorem dX12_isBetween_51 : decode cX12_isBetween 51 = .ok (.iload 6, 2) := by decide +kernel
theorem dX12_isBetween_53 : decode cX12_isBetween 53 = .ok (.imul, 1) := by decide +kernel
theorem dX12_isBetween_54 : decode cX12_isBetween 54 = .ok (.if_icmp .eq 5, 3) := by decide +kernel
theorem dX12_isBetween_57 : decode cX12_isBetween 57 = .ok (.iconst 0, 1) := by decide +kernel
theorem dX12_isBetween_58 : decode cX12_isBetween 58 = .ok (.ireturn, 1) := by decide +kernel
theorem dX12_isBetween_59 : decode cX12_isBetween 59 = .ok (.iload 4, 2) := by decide +kernel
theorem dX12_isBetween_61 : decode cX12_isBetween 61 = .ok (.iload 6, 2) := by decide +kernel
theorem dX12_isBetween_63 : decode cX12_isBetween 63 = .ok (.imul, 1) := by decide +kernel
theorem dX12_isBetween_64 : decode cX12_isBetween 64 = .ok (.iload 5, 2) := by decide +kernel
theorem dX12_isBetween_66 : decode cX12_isBetween 66 = .ok (.iload 7, 2) := by decide +kernel
theorem dX12_isBetween_68 : decode cX12_isBetween 68 = .ok (.imul, 1) := by decide +kernel
theorem dX12_isBetween_69 : decode cX12_isBetween 69 = .ok (.iadd, 1) := by decide +kernel
theorem dX12_isBetween_70 : decode cX12_isBetween 70 = .ok (.istore 8, 2) := by decide +kernel
theorem dX12_isBetween_72 : decode cX12_isBetween 72 = .ok (.iload 8, 2) := by decide +kernel
theorem dX12_isBetween_74 : decode cX12_isBetween 74 = .ok (.ifCond .le 23, 3) := by decide +kernel
theorem dX12_isBetween_77 : decode cX12_isBetween 77 = .ok (.iload 8, 2) := by decide +kernel
theorem dX12_isBetween_79 : decode cX12_isBetween 79 = .ok (.iload 6, 2) := by decide +kernel
theorem dX12_isBetween_81 : decode cX12_isBetween 81 = .ok (.iload 6, 2) := by decide +kernel
theorem dX12_isBetween_83 : decode cX12_isBetween 83 = .ok (.imul, 1) := by decide +kernel
theorem dX12_isBetween_84 : decode cX12_isBetween 84 = .ok (.iload 7, 2) := by decide +kernel
theorem dX12_isBetween_86 : decode cX12_isBetween 86 = .ok (.iload 7, 2) := by decide +kernel
theorem dX12_isBetween_88 : decode cX12_isBetween 88 = .ok (.imul, 1) := by decide +kernel
theorem dX12_isBetween_89 : decode cX12_isBetween 89 = .ok (.iadd, 1) := by decide +kernel
theorem dX12_isBetween_90 : decode cX12_isBetween 90 = .ok (.if_icmp .ge 7, 3) := by decide +kernel
theorem dX12_isBetween_93 : decode cX12_isBetween 93 = .ok (.iconst 1, 1) := by decide +kernel
theorem dX12_isBetween_94 : decode cX12_isBetween 94 = .ok (.goto 4, 3) := by decide +kernel
theorem dX12_isBetween_97 : decode cX12_isBetween 97 = .ok (.iconst 0, 1) := by decide +kernel
theorem dX12_isBetween_98 : decode cX12_isBetween 98 = .ok (.ireturn, 1) := by decide +kernel
theorem dX12_isDigit_0 : decode cX12_isDigit 0 = .ok (.aload_n 0, 1) := by decide +kernel
theorem dX12_isDigit_1 : decode cX12_isDigit 1 = .ok (.iload_n 1, 1) := by decide +kernel
theorem dX12_isDigit_2 : decode cX12_isDigit 2 = .ok (.bipush 48, 2) := by decide +kernel
theorem dX12_isDigit_4 : decode cX12_isDigit 4 = .ok (.bipush 57, 2) := by decide +kernel
theorem dX12_isDigit_6 : decode cX12_isDigit 6 = .ok (.invokevirtual 151, 3) := by decide +kernel
theorem dX12_isDigit_9 : decode cX12_isDigit 9 = .ok (.ireturn, 1) := by decide +kernel
theorem dX12_isHouse_0 : decode cX12_isHouse 0 = .ok (.iload_n 1, 1) := by decide +kernel
theorem dX12_isHouse_1 : decode cX12_isHouse 1 = .ok (.ifCond .lt 15, 3) := by decide +kernel
theorem dX12_isHouse_4 : decode cX12_isHouse 4 = .ok (.iload_n 1, 1) := by decide +kernel
theorem dX12_isHouse_5 : decode cX12_isHouse 5 = .ok (.aload_n 0, 1) := by decide +kernel
theorem dX12_isHouse_6 : decode cX12_isHouse 6 = .ok (.getfield 148, 3) := by decide +kernel
theorem dX12_isHouse_9 : decode cX12_isHouse 9 = .ok (.if_icmp .ge 7, 3) := by decide +kernel
theorem dX12_isHouse_12 : decode cX12_isHouse 12 = .ok (.iconst 1, 1) := by decide +kernel
theorem dX12_isHouse_13 : decode cX12_isHouse 13 = .ok (.goto 4, 3) := by decide +kernel
theorem dX12_isHouse_16 : decode cX12_isHouse 16 = .ok (.iconst 0, 1) := by decide +kernel
theorem dX12_isHouse_17 : decode cX12_isHouse 17 = .ok (.ireturn, 1) := by decide +kernel
theorem dX12_isIn_0 : decode cX12_isIn 0 = .ok (.iload_n 1, 1) := by decide +kernel
theorem dX12_isIn_1 : decode cX12_isIn 1 = .ok (.iload_n 2, 1) := by decide +kernel
theorem dX12_isIn_2 : decode cX12_isIn 2 = .ok (.if_icmp .lt 12, 3) := by decide +kernel
theorem dX12_isIn_5 : decode cX12_isIn 5 = .ok (.iload_n 1, 1) := by decide +kernel
theorem dX12_isIn_6 : decode cX12_isIn 6 = .ok (.iload_n 3, 1) := by decide +kernel
theorem dX12_isIn_7 : decode cX12_isIn 7 = .ok (.if_icmp .gt 7, 3) := by decide +kernel
theorem dX12_isIn_10 : decode cX12_isIn 10 = .ok (.iconst 1, 1) := by decide +kernel
theorem dX12_isIn_11 : decode cX12_isIn 11 = .ok (.goto 4, 3) := by decide +kernel
theorem dX12_isIn_14 : decode cX12_isIn 14 = .ok (.iconst 0, 1) := by decide +kernel
theorem dX12_isIn_15 : decode cX12_isIn 15 = .ok (.ireturn, 1) := by decide +kernel
theorem dX12_isLetter_0 : decode cX12_isLetter 0 = .ok (.aload_n 0, 1) := by decide +kernel
theorem dX12_isLetter_1 : decode cX12_isLetter 1 = .ok (.iload_n 1, 1) := by decide +kernel
theorem dX12_isLetter_2 : decode cX12_isLetter 2 = .ok (.bipush 97, 2) := by decide +kernel
theorem dX12_isLetter_4 : decode cX12_isLetter 4 = .ok (.bipush 122, 2) := by decide +kernel
theorem dX12_isLetter_6 : decode cX12_isLetter 6 = .ok (.invokevirtual 151, 3) := by decide +kernel
theorem dX12_isLetter_9 : decode cX12_isLetter 9 = .ok (.ifCond .ne 15, 3) := by decide +kernel
theorem dX12_isLetter_12 : decode cX12_isLetter 12 = .ok (.aload_n 0, 1) := by decide +kernel
theorem dX12_isLetter_13 : decode cX12_isLetter 13 = .ok (.iload_n 1, 1) := by decide +kernel
theorem dX12_isLetter_14 : decode cX12_isLetter 14 = .ok (.bipush 65, 2) := by decide +kernel
theorem dX12_isLetter_16 : decode cX12_isLetter 16 = .ok (.bipush 90, 2) := by decide +kernel
theorem dX12_isLetter_18 : decode cX12_isLetter 18 = .ok (.invokevirtual 151, 3) := by decide +kernel
theorem dX12_isLetter_21 : decode cX12_isLetter 21 = .ok (.ifCond .eq 7, 3) := by decide +kernel
theorem dX12_isLetter_24 : decode cX12_isLetter 24 = .ok (.iconst 1, 1) := by decide +kernel
theorem dX12_isLetter_25 : decode cX12_isLetter 25 = .ok (.goto 4, 3) := by decide +kernel
theorem dX12_isLetter_28 : decode cX12_isLetter 28 = .ok (.iconst 0, 1) := by decide +kernel
theorem dX12_isLetter_29 : decode cX12_isLetter 29 = .ok (.ireturn, 1) := by decide +kernel
theorem dX12_isMarkSign_0 : decode cX12_isMarkSign 0 = .ok (.iload_n 1, 1) := by decide +kernel
theorem dX12_isMarkSign_1 : decode cX12_isMarkSign 1 = .ok (.bipush 59, 2) := by decide +kernel
theorem dX12_isMarkSign_3 : decode cX12_isMarkSign 3 = .ok (.if_icmp .eq 57, 3) := by decide +kernel
theorem dX12_isMarkSign_6 : decode cX12_isMarkSign 6 = .ok (.iload_n 1, 1) := by decide +kernel
theorem dX12_isMarkSign_7 : decode cX12_isMarkSign 7 = .ok (.bipush 43, 2) := by decide +kernel
theorem dX12_isMarkSign_9 : decode cX12_isMarkSign 9 = .ok (.if_icmp .eq 51, 3) := by decide +kernel
theorem dX12_isMarkSign_12 : decode cX12_isMarkSign 12 = .ok (.iload_n 1, 1) := by decide +kernel
theorem dX12_isMarkSign_13 : decode cX12_isMarkSign 13 = .ok (.bipush 45, 2) := by decide +kernel
theorem dX12_isMarkSign_15 : decode cX12_isMarkSign 15 = .ok (.if_icmp .eq 45, 3) := by decide +kernel
theorem dX12_isMarkSign_18 : decode cX12_isMarkSign 18 = .ok (.iload_n 1, 1) := by decide +kernel
theorem dX12_isMarkSign_19 : decode cX12_isMarkSign 19 = .ok (.bipush 42, 2) := by decide +kernel
theorem dX12_isMarkSign_21 : decode cX12_isMarkSign 21 = .ok (.if_icmp .eq 39, 3) := by decide +kernel
theorem dX12_isMarkSign_24 : decode cX12_isMarkSign 24 = .ok (.iload_n 1, 1) := by decide +kernel
theorem dX12_isMarkSign_25 : decode cX12_isMarkSign 25 = .ok (.bipush 47, 2) := by decide +kernel
theorem dX12_isMarkSign_27 : decode cX12_isMarkSign 27 = .ok (.if_icmp .eq 33, 3) := by decide +kernel
theorem dX12_isMarkSign_30 : decode cX12_isMarkSign 30 = .ok (.iload_n 1, 1) := by decide +kernel
theorem dX12_isMarkSign_31 : decode cX12_isMarkSign 31 = .ok (.bipush 40, 2) := by decide +kernel
theorem dX12_isMarkSign_33 : decode cX12_isMarkSign 33 = .ok (.if_icmp .eq 27, 3) := by decide +kernel
theorem dX12_isMarkSign_36 : decode cX12_isMarkSign 36 = .ok (.iload_n 1, 1) := by decide +kernel
theorem dX12_isMarkSign_37 : decode cX12_isMarkSign 37 = .ok (.bipush 41, 2) := by decide +kernel
theorem dX12_isMarkSign_39 : decode cX12_isMarkSign 39 = .ok (.if_icmp .eq 21, 3) := by decide +kernel
theorem dX12_isMarkSign_42 : decode cX12_isMarkSign 42 = .ok (.iload_n 1, 1) := by decide +kernel
theorem dX12_isMarkSign_43 : decode cX12_isMarkSign 43 = .ok (.bipush 60, 2) := by decide +kernel
theorem dX12_isMarkSign_45 : decode cX12_isMarkSign 45 = .ok (.if_icmp .eq 15, 3) := by decide +kernel
theorem dX12_isMarkSign_48 : decode cX12_isMarkSign 48 = .ok (.iload_n 1, 1) := by decide +kernel
theorem dX12_isMarkSign_49 : decode cX12_isMarkSign 49 = .ok (.bipush 61, 2) := by decide +kernel
theorem dX12_isMarkSign_51 : decode cX12_isMarkSign 51 = .ok (.if_icmp .eq 9, 3) := by decide +kernel
theorem dX12_isMarkSign_54 : decode cX12_isMarkSign 54 = .ok (.iload_n 1, 1) := by decide +kernel
theorem dX12_isMarkSign_55 : decode cX12_isMarkSign 55 = .ok (.bipush 62, 2) := by decide +kernel
theorem dX12_isMarkSign_57 : decode cX12_isMarkSign 57 = .ok (.if_icmp .ne 7, 3) := by decide +kernel
theorem dX12_isMarkSign_60 : decode cX12_isMarkSign 60 = .ok (.iconst 1, 1) := by decide +kernel
theorem dX12_isMarkSign_61 : decode cX12_isMarkSign 61 = .ok (.goto 4, 3) := by decide +kernel
theorem dX12_isMarkSign_64 : decode cX12_isMarkSign 64 = .ok (.iconst 0, 1) := by decide +kernel
theorem dX12_isMarkSign_65 : decode cX12_isMarkSign 65 = .ok (.ireturn, 1) := by decide +kernel
theorem dX12_isOpen_0 : decode cX12_isOpen 0 = .ok (.aload_n 0, 1) := by decide +kernel
theorem dX12_isOpen_1 : decode cX12_isOpen 1 = .ok (.getfield 7, 3) := by decide +kernel
theorem dX12_isOpen_4 : decode cX12_isOpen 4 = .ok (.bipush 46, 2) := by decide +kernel
theorem dX12_isOpen_6 : decode cX12_isOpen 6 = .ok (.iload_n 1, 1) := by decide +kernel
theorem dX12_isOpen_7 : decode cX12_isOpen 7 = .ok (.iadd, 1) := by decide +kernel
theorem dX12_isOpen_8 : decode cX12_isOpen 8 = .ok (.iaload, 1) := by decide +kernel
theorem dX12_isOpen_9 : decode cX12_isOpen 9 = .ok (.ifCond .ne 44, 3) := by decide +kernel
theorem dX12_isOpen_12 : decode cX12_isOpen 12 = .ok (.aload_n 0, 1) := by decide +kernel
theorem dX12_isOpen_13 : decode cX12_isOpen 13 = .ok (.getfield 7, 3) := by decide +kernel
theorem dX12_isOpen_16 : decode cX12_isOpen 16 = .ok (.bipush 56, 2) := by decide +kernel
theorem dX12_isOpen_18 : decode cX12_isOpen 18 = .ok (.iload_n 1, 1) := by decide +kernel
theorem dX12_isOpen_19 : decode cX12_isOpen 19 = .ok (.iadd, 1) := by decide +kernel
theorem dX12_isOpen_20 : decode cX12_isOpen 20 = .ok (.iaload, 1) := by decide +kernel
theorem dX12_isOpen_21 : decode cX12_isOpen 21 = .ok (.ifCond .ne 32, 3) := by decide +kernel
theorem dX12_isOpen_24 : decode cX12_isOpen 24 = .ok (.aload_n 0, 1) := by decide +kernel
theorem dX12_isOpen_25 : decode cX12_isOpen 25 = .ok (.aload_n 0, 1) := by decide +kernel
theorem dX12_isOpen_26 : decode cX12_isOpen 26 = .ok (.getfield 7, 3) := by decide +kernel
theorem dX12_isOpen_29 : decode cX12_isOpen 29 = .ok (.iconst 0, 1) := by decide +kernel
theorem dX12_isOpen_30 : decode cX12_isOpen 30 = .ok (.iaload, 1) := by decide +kernel
theorem dX12_isOpen_31 : decode cX12_isOpen 31 = .ok (.aload_n 0, 1) := by decide +kernel
theorem dX12_isOpen_32 : decode cX12_isOpen 32 = .ok (.iload_n 1, 1) := by decide +kernel
theorem dX12_isOpen_33 : decode cX12_isOpen 33 = .ok (.iconst 2, 1) := by decide +kernel
theorem dX12_isOpen_34 : decode cX12_isOpen 34 = .ok (.invokevirtual 356, 3) := by decide +kernel
theorem dX12_isOpen_37 : decode cX12_isOpen 37 = .ok (.aload_n 0, 1) := by decide +kernel
theorem dX12_isOpen_38 : decode cX12_isOpen 38 = .ok (.iload_n 1, 1) := by decide +kernel
theorem dX12_isOpen_39 : decode cX12_isOpen 39 = .ok (.iconst 3, 1) := by decide +kernel
theorem dX12_isOpen_40 : decode cX12_isOpen 40 = .ok (.invokevirtual 356, 3) := by decide +kernel
theorem dX12_isOpen_43 : decode cX12_isOpen 43 = .ok (.invokevirtual 151, 3) := by decide +kernel
theorem dX12_isOpen_46 : decode cX12_isOpen 46 = .ok (.ifCond .eq 7, 3) := by decide +kernel
theorem dX12_isOpen_49 : decode cX12_isOpen 49 = .ok (.iconst 1, 1) := by decide +kernel
theorem dX12_isOpen_50 : decode cX12_isOpen 50 = .ok (.goto 4, 3) := by decide +kernel
theorem dX12_isOpen_53 : decode cX12_isOpen 53 = .ok (.iconst 0, 1) := by decide +kernel
theorem dX12_isOpen_54 : decode cX12_isOpen 54 = .ok (.ireturn, 1) := by decide +kernel
theorem dX12_isReached_0 : decode cX12_isReached 0 = .ok (.iload_n 1, 1) := by decide +kernel
theorem dX12_isReached_1 : decode cX12_isReached 1 = .ok (.iload_n 2, 1) := by decide +kernel
theorem dX12_isReached_2 : decode cX12_isReached 2 = .ok (.if_icmp .eq 21, 3) := by decide +kernel
theorem dX12_isReached_5 : decode cX12_isReached 5 = .ok (.aload_n 0, 1) := by decide +kernel
theorem dX12_isReached_6 : decode cX12_isReached 6 = .ok (.getfield 101, 3) := by decide +kernel
theorem dX12_isReached_9 : decode cX12_isReached 9 = .ok (.bipush 10, 2) := by decide +kernel
theorem dX12_isReached_11 : decode cX12_isReached 11 = .ok (.iload_n 1, 1) := by decide +kernel
theorem dX12_isReached_12 : decode cX12_isReached 12 = .ok (.imul, 1) := by decide +kernel
theorem dX12_isReached_13 : decode cX12_isReached 13 = .ok (.iload_n 2, 1) := by decide +kernel
theorem dX12_isReached_14 : decode cX12_isReached 14 = .ok (.iadd, 1) := by decide +kernel
theorem dX12_isReached_15 : decode cX12_isReached 15 = .ok (.iaload, 1) := by decide +kernel
theorem dX12_isReached_16 : decode cX12_isReached 16 = .ok (.aload_n 0, 1) := by decide +kernel
theorem dX12_isReached_17 : decode cX12_isReached 17 = .ok (.invokevirtual 350, 3) := by decide +kernel
theorem dX12_isReached_20 : decode cX12_isReached 20 = .ok (.if_icmp .gt 7, 3) := by decide +kernel
theorem dX12_isReached_23 : decode cX12_isReached 23 = .ok (.iconst 1, 1) := by decide +kernel
theorem dX12_isReached_24 : decode cX12_isReached 24 = .ok (.goto 4, 3) := by decide +kernel
theorem dX12_isReached_27 : decode cX12_isReached 27 = .ok (.iconst 0, 1) := by decide +kernel
theorem dX12_isReached_28 : decode cX12_isReached 28 = .ok (.ireturn, 1) := by decide +kernel
theorem dX12_isSign_0 : decode cX12_isSign 0 = .ok (.aload_n 0, 1) := by decide +kernel
theorem dX12_isSign_1 : decode cX12_isSign 1 = .ok (.getfield 188, 3) := by decide +kernel
theorem dX12_isSign_4 : decode cX12_isSign 4 = .ok (.iconst 4, 1) := by decide +kernel
theorem dX12_isSign_5 : decode cX12_isSign 5 = .ok (.if_icmp .ne 15, 3) := by decide +kernel
theorem dX12_isSign_8 : decode cX12_isSign 8 = .ok (.aload_n 0, 1) := by decide +kernel
theorem dX12_isSign_9 : decode cX12_isSign 9 = .ok (.getfield 191, 3) := by decide +kernel
theorem dX12_isSign_12 : decode cX12_isSign 12 = .ok (.iload_n 1, 1) := by decide +kernel
theorem dX12_isSign_13 : decode cX12_isSign 13 = .ok (.if_icmp .ne 7, 3) := by decide +kernel
theorem dX12_isSign_16 : decode cX12_isSign 16 = .ok (.iconst 1, 1) := by decide +kernel
theorem dX12_isSign_17 : decode cX12_isSign 17 = .ok (.goto 4, 3) := by decide +kernel
theorem dX12_isSign_20 : decode cX12_isSign 20 = .ok (.iconst 0, 1) := by decide +kernel
theorem dX12_isSign_21 : decode cX12_isSign 21 = .ok (.ireturn, 1) := by decide +kernel
theorem dX12_isWord_0 : decode cX12_isWord 0 = .ok (.aload_n 0, 1) := by decide +kernel
theorem dX12_isWord_1 : decode cX12_isWord 1 = .ok (.getfield 188, 3) := by decide +kernel
theorem dX12_isWord_4 : decode cX12_isWord 4 = .ok (.iconst 2, 1) := by decide +kernel
theorem dX12_isWord_5 : decode cX12_isWord 5 = .ok (.if_icmp .ne 15, 3) := by decide +kernel
theorem dX12_isWord_8 : decode cX12_isWord 8 = .ok (.aload_n 0, 1) := by decide +kernel
theorem dX12_isWord_9 : decode cX12_isWord 9 = .ok (.getfield 191, 3) := by decide +kernel
theorem dX12_isWord_12 : decode cX12_isWord 12 = .ok (.iload_n 1, 1) := by decide +kernel
theorem dX12_isWord_13 : decode cX12_isWord 13 = .ok (.if_icmp .ne 7, 3) := by decide +kernel
theorem dX12_isWord_16 : decode cX12_isWord 16 = .ok (.iconst 1, 1) := by decide +kernel
theorem dX12_isWord_17 : decode cX12_isWord 17 = .ok (.goto 4, 3) := by decide +kernel
theorem dX12_isWord_20 : decode cX12_isWord 20 = .ok (.iconst 0, 1) := by decide +kernel
theorem dX12_isWord_21 : decode cX12_isWord 21 = .ok (.ireturn, 1) := by decide +kernel
theorem dX12_liars_0 : decode cX12_liars 0 = .ok (.aload_n 0, 1) := by decide +kernel
theorem dX12_liars_1 : decode cX12_liars 1 = .ok (.iconst 0, 1) := by decide +kernel
theorem dX12_liars_2 : decode cX12_liars 2 = .ok (.putfield 130, 3) := by decide +kernel
theorem dX12_liars_5 : decode cX12_liars 5 = .ok (.iconst 0, 1) := by decide +kernel
theorem dX12_liars_6 : decode cX12_liars 6 = .ok (.istore_n 1, 1) := by decide +kernel
theorem dX12_liars_7 : decode cX12_liars 7 = .ok (.iconst 0, 1) := by decide +kernel
theorem dX12_liars_8 : decode cX12_liars 8 = .ok (.istore_n 2, 1) := by decide +kernel
theorem dX12_liars_9 : decode cX12_liars 9 = .ok (.iload_n 2, 1) := by decide +kernel
theorem dX12_liars_10 : decode cX12_liars 10 = .ok (.aload_n 0, 1) := by decide +kernel
theorem dX12_liars_11 : decode cX12_liars 11 = .ok (.getfield 148, 3) := by decide +kernel
theorem dX12_liars_14 : decode cX12_liars 14 = .ok (.if_icmp .ge 33, 3) := by decide +kernel
theorem dX12_liars_17 : decode cX12_liars 17 = .ok (.aload_n 0, 1) := by decide +kernel
theorem dX12_liars_18 : decode cX12_liars 18 = .ok (.getfield 28, 3) := by decide +kernel
theorem dX12_liars_21 : decode cX12_liars 21 = .ok (.iload_n 2, 1) := by decide +kernel
theorem dX12_liars_22 : decode cX12_liars 22 = .ok (.iaload, 1) := by decide +kernel
theorem dX12_liars_23 : decode cX12_liars 23 = .ok (.aload_n 0, 1) := by decide +kernel
theorem dX12_liars_24 : decode cX12_liars 24 = .ok (.getfield 7, 3) := by decide +kernel
theorem dX12_liars_27 : decode cX12_liars 27 = .ok (.bipush 26, 2) := by decide +kernel
theorem dX12_liars_29 : decode cX12_liars 29 = .ok (.iload_n 2, 1) := by decide +kernel
theorem dX12_liars_30 : decode cX12_liars 30 = .ok (.iadd, 1) := by decide +kernel
theorem dX12_liars_31 : decode cX12_liars 31 = .ok (.iaload, 1) := by decide +kernel
theorem dX12_liars_32 : decode cX12_liars 32 = .ok (.if_icmp .eq 9, 3) := by decide +kernel
theorem dX12_liars_35 : decode cX12_liars 35 = .ok (.iload_n 1, 1) := by decide +kernel
theorem dX12_liars_36 : decode cX12_liars 36 = .ok (.iconst 1, 1) := by decide +kernel
theorem dX12_liars_37 : decode cX12_liars 37 = .ok (.iload_n 2, 1) := by decide +kernel
theorem dX12_liars_38 : decode cX12_liars 38 = .ok (.ishl, 1) := by decide +kernel
theorem dX12_liars_39 : decode cX12_liars 39 = .ok (.ior, 1) := by decide +kernel
theorem dX12_liars_40 : decode cX12_liars 40 = .ok (.istore_n 1, 1) := by decide +kernel
theorem dX12_liars_41 : decode cX12_liars 41 = .ok (.iinc 2 1, 3) := by decide +kernel
theorem dX12_liars_44 : decode cX12_liars 44 = .ok (.goto (-35), 3) := by decide +kernel
theorem dX12_liars_47 : decode cX12_liars 47 = .ok (.iload_n 1, 1) := by decide +kernel
theorem dX12_liars_48 : decode cX12_liars 48 = .ok (.ireturn, 1) := by decide +kernel
theorem dX12_ofNeed_0 : decode cX12_ofNeed 0 = .ok (.aload_n 0, 1) := by decide +kernel
theorem dX12_ofNeed_1 : decode cX12_ofNeed 1 = .ok (.getfield 77, 3) := by decide +kernel
theorem dX12_ofNeed_4 : decode cX12_ofNeed 4 = .ok (.iconst 5, 1) := by decide +kernel
theorem dX12_ofNeed_5 : decode cX12_ofNeed 5 = .ok (.iload_n 1, 1) := by decide +kernel
theorem dX12_ofNeed_6 : decode cX12_ofNeed 6 = .ok (.imul, 1) := by decide +kernel
theorem dX12_ofNeed_7 : decode cX12_ofNeed 7 = .ok (.iload_n 2, 1) := by decide +kernel
theorem dX12_ofNeed_8 : decode cX12_ofNeed 8 = .ok (.iadd, 1) := by decide +kernel
theorem dX12_ofNeed_9 : decode cX12_ofNeed 9 = .ok (.iaload, 1) := by decide +kernel
theorem dX12_ofNeed_10 : decode cX12_ofNeed 10 = .ok (.ireturn, 1) := by decide +kernel
theorem dX12_owes_0 : decode cX12_owes 0 = .ok (.iconst 0, 1) := by decide +kernel
theorem dX12_owes_1 : decode cX12_owes 1 = .ok (.istore_n 1, 1) := by decide +kernel
theorem dX12_owes_2 : decode cX12_owes 2 = .ok (.iload_n 1, 1) := by decide +kernel
theorem dX12_owes_3 : decode cX12_owes 3 = .ok (.aload_n 0, 1) := by decide +kernel
theorem dX12_owes_4 : decode cX12_owes 4 = .ok (.getfield 148, 3) := by decide +kernel
theorem dX12_owes_7 : decode cX12_owes 7 = .ok (.if_icmp .ge 55, 3) := by decide +kernel
theorem dX12_owes_10 : decode cX12_owes 10 = .ok (.aload_n 0, 1) := by decide +kernel
theorem dX12_owes_11 : decode cX12_owes 11 = .ok (.iload_n 1, 1) := by decide +kernel
theorem dX12_owes_12 : decode cX12_owes 12 = .ok (.invokevirtual 362, 3) := by decide +kernel
theorem dX12_owes_15 : decode cX12_owes 15 = .ok (.istore_n 2, 1) := by decide +kernel
theorem dX12_owes_16 : decode cX12_owes 16 = .ok (.iload_n 2, 1) := by decide +kernel
theorem dX12_owes_17 : decode cX12_owes 17 = .ok (.ifCond .le 39, 3) := by decide +kernel
theorem dX12_owes_20 : decode cX12_owes 20 = .ok (.iload_n 2, 1) := by decide +kernel
theorem dX12_owes_21 : decode cX12_owes 21 = .ok (.aload_n 0, 1) := by decide +kernel
theorem dX12_owes_22 : decode cX12_owes 22 = .ok (.invokevirtual 384, 3) := by decide +kernel
theorem dX12_owes_25 : decode cX12_owes 25 = .ok (.irem, 1) := by decide +kernel
theorem dX12_owes_26 : decode cX12_owes 26 = .ok (.ifCond .ne 30, 3) := by decide +kernel
theorem dX12_owes_29 : decode cX12_owes 29 = .ok (.aload_n 0, 1) := by decide +kernel
theorem dX12_owes_30 : decode cX12_owes 30 = .ok (.getfield 7, 3) := by decide +kernel
theorem dX12_owes_33 : decode cX12_owes 33 = .ok (.bipush 16, 2) := by decide +kernel
theorem dX12_owes_35 : decode cX12_owes 35 = .ok (.iload_n 1, 1) := by decide +kernel
theorem dX12_owes_36 : decode cX12_owes 36 = .ok (.iadd, 1) := by decide +kernel
theorem dX12_owes_37 : decode cX12_owes 37 = .ok (.aload_n 0, 1) := by decide +kernel
theorem dX12_owes_38 : decode cX12_owes 38 = .ok (.aload_n 0, 1) := by decide +kernel
theorem dX12_owes_39 : decode cX12_owes 39 = .ok (.getfield 7, 3) := by decide +kernel
theorem dX12_owes_42 : decode cX12_owes 42 = .ok (.bipush 16, 2) := by decide +kernel
theorem dX12_owes_44 : decode cX12_owes 44 = .ok (.iload_n 1, 1) := by decide +kernel
theorem dX12_owes_45 : decode cX12_owes 45 = .ok (.iadd, 1) := by decide +kernel
theorem dX12_owes_46 : decode cX12_owes 46 = .ok (.iaload, 1) := by decide +kernel
theorem dX12_owes_47 : decode cX12_owes 47 = .ok (.iconst 1, 1) := by decide +kernel
theorem dX12_owes_48 : decode cX12_owes 48 = .ok (.iadd, 1) := by decide +kernel
theorem dX12_owes_49 : decode cX12_owes 49 = .ok (.iconst 0, 1) := by decide +kernel
theorem dX12_owes_50 : decode cX12_owes 50 = .ok (.bipush 99, 2) := by decide +kernel
theorem dX12_owes_52 : decode cX12_owes 52 = .ok (.invokevirtual 374, 3) := by decide +kernel
theorem dX12_owes_55 : decode cX12_owes 55 = .ok (.iastore, 1) := by decide +kernel
theorem dX12_owes_56 : decode cX12_owes 56 = .ok (.iinc 1 1, 3) := by decide +kernel
theorem dX12_owes_59 : decode cX12_owes 59 = .ok (.goto (-57), 3) := by decide +kernel
theorem dX12_owes_62 : decode cX12_owes 62 = .ok (.return_, 1) := by decide +kernel
theorem dX12_raw_0 : decode cX12_raw 0 = .ok (.iload_n 1, 1) := by decide +kernel
theorem dX12_raw_1 : decode cX12_raw 1 = .ok (.aload_n 0, 1) := by decide +kernel
theorem dX12_raw_2 : decode cX12_raw 2 = .ok (.getfield 172, 3) := by decide +kernel
theorem dX12_raw_5 : decode cX12_raw 5 = .ok (.if_icmp .ge 12, 3) := by decide +kernel
theorem dX12_raw_8 : decode cX12_raw 8 = .ok (.aload_n 0, 1) := by decide +kernel
theorem dX12_raw_9 : decode cX12_raw 9 = .ok (.getfield 43, 3) := by decide +kernel
theorem dX12_raw_12 : decode cX12_raw 12 = .ok (.iload_n 1, 1) := by decide +kernel
theorem dX12_raw_13 : decode cX12_raw 13 = .ok (.iaload, 1) := by decide +kernel
theorem dX12_raw_14 : decode cX12_raw 14 = .ok (.goto 4, 3) := by decide +kernel
theorem dX12_raw_17 : decode cX12_raw 17 = .ok (.iconst (-1), 1) := by decide +kernel
theorem dX12_raw_18 : decode cX12_raw 18 = .ok (.ireturn, 1) := by decide +kernel
theorem dX12_reachedFrom_0 : decode cX12_reachedFrom 0 = .ok (.iconst 0, 1) := by decide +kernel
theorem dX12_reachedFrom_1 : decode cX12_reachedFrom 1 = .ok (.istore_n 2, 1) := by decide +kernel
theorem dX12_reachedFrom_2 : decode cX12_reachedFrom 2 = .ok (.iconst 0, 1) := by decide +kernel
theorem dX12_reachedFrom_3 : decode cX12_reachedFrom 3 = .ok (.istore_n 3, 1) := by decide +kernel
theorem dX12_reachedFrom_4 : decode cX12_reachedFrom 4 = .ok (.iload_n 3, 1) := by decide +kernel
theorem dX12_reachedFrom_5 : decode cX12_reachedFrom 5 = .ok (.aload_n 0, 1) := by decide +kernel
theorem dX12_reachedFrom_6 : decode cX12_reachedFrom 6 = .ok (.getfield 148, 3) := by decide +kernel
theorem dX12_reachedFrom_9 : decode cX12_reachedFrom 9 = .ok (.if_icmp .ge 24, 3) := by decide +kernel
theorem dX12_reachedFrom_12 : decode cX12_reachedFrom 12 = .ok (.aload_n 0, 1) := by decide +kernel
theorem dX12_reachedFrom_13 : decode cX12_reachedFrom 13 = .ok (.iload_n 1, 1) := by decide +kernel
theorem dX12_reachedFrom_14 : decode cX12_reachedFrom 14 = .ok (.iload_n 3, 1) := by decide +kernel
theorem dX12_reachedFrom_15 : decode cX12_reachedFrom 15 = .ok (.invokevirtual 377, 3) := by decide +kernel
theorem dX12_reachedFrom_18 : decode cX12_reachedFrom 18 = .ok (.ifCond .eq 9, 3) := by decide +kernel
theorem dX12_reachedFrom_21 : decode cX12_reachedFrom 21 = .ok (.iload_n 2, 1) := by decide +kernel
theorem dX12_reachedFrom_22 : decode cX12_reachedFrom 22 = .ok (.iconst 1, 1) := by decide +kernel
theorem dX12_reachedFrom_23 : decode cX12_reachedFrom 23 = .ok (.iload_n 3, 1) := by decide +kernel
theorem dX12_reachedFrom_24 : decode cX12_reachedFrom 24 = .ok (.ishl, 1) := by decide +kernel
theorem dX12_reachedFrom_25 : decode cX12_reachedFrom 25 = .ok (.ior, 1) := by decide +kernel
theorem dX12_reachedFrom_26 : decode cX12_reachedFrom 26 = .ok (.istore_n 2, 1) := by decide +kernel
theorem dX12_reachedFrom_27 : decode cX12_reachedFrom 27 = .ok (.iinc 3 1, 3) := by decide +kernel
theorem dX12_reachedFrom_30 : decode cX12_reachedFrom 30 = .ok (.goto (-26), 3) := by decide +kernel
theorem dX12_reachedFrom_33 : decode cX12_reachedFrom 33 = .ok (.iload_n 2, 1) := by decide +kernel
theorem dX12_reachedFrom_34 : decode cX12_reachedFrom 34 = .ok (.ireturn, 1) := by decide +kernel
theorem dX12_rowsBy_0 : decode cX12_rowsBy 0 = .ok (.aload_n 0, 1) := by decide +kernel
theorem dX12_rowsBy_1 : decode cX12_rowsBy 1 = .ok (.getfield 120, 3) := by decide +kernel
theorem dX12_rowsBy_4 : decode cX12_rowsBy 4 = .ok (.bipush 10, 2) := by decide +kernel
theorem dX12_rowsBy_6 : decode cX12_rowsBy 6 = .ok (.iload_n 1, 1) := by decide +kernel
theorem dX12_rowsBy_7 : decode cX12_rowsBy 7 = .ok (.imul, 1) := by decide +kernel
theorem dX12_rowsBy_8 : decode cX12_rowsBy 8 = .ok (.iload_n 2, 1) := by decide +kernel
theorem dX12_rowsBy_9 : decode cX12_rowsBy 9 = .ok (.iadd, 1) := by decide +kernel
theorem dX12_rowsBy_10 : decode cX12_rowsBy 10 = .ok (.laload, 1) := by decide +kernel
theorem dX12_rowsBy_11 : decode cX12_rowsBy 11 = .ok (.aload_n 0, 1) := by decide +kernel
theorem dX12_rowsBy_12 : decode cX12_rowsBy 12 = .ok (.getfield 124, 3) := by decide +kernel
theorem dX12_rowsBy_15 : decode cX12_rowsBy 15 = .ok (.bipush 10, 2) := by decide +kernel
theorem dX12_rowsBy_17 : decode cX12_rowsBy 17 = .ok (.iload_n 1, 1) := by decide +kernel
theorem dX12_rowsBy_18 : decode cX12_rowsBy 18 = .ok (.imul, 1) := by decide +kernel
theorem dX12_rowsBy_19 : decode cX12_rowsBy 19 = .ok (.iload_n 2, 1) := by decide +kernel
theorem dX12_rowsBy_20 : decode cX12_rowsBy 20 = .ok (.iadd, 1) := by decide +kernel
theorem dX12_rowsBy_21 : decode cX12_rowsBy 21 = .ok (.laload, 1) := by decide +kernel
theorem dX12_rowsBy_22 : decode cX12_rowsBy 22 = .ok (.lmul, 1) := by decide +kernel
theorem dX12_rowsBy_23 : decode cX12_rowsBy 23 = .ok (.lreturn, 1) := by decide +kernel
theorem dX12_seenBy_0 : decode cX12_seenBy 0 = .ok (.iconst 0, 1) := by decide +kernel
theorem dX12_seenBy_1 : decode cX12_seenBy 1 = .ok (.istore_n 2, 1) := by decide +kernel
theorem dX12_seenBy_2 : decode cX12_seenBy 2 = .ok (.iconst 0, 1) := by decide +kernel
theorem dX12_seenBy_3 : decode cX12_seenBy 3 = .ok (.istore_n 3, 1) := by decide +kernel
theorem dX12_seenBy_4 : decode cX12_seenBy 4 = .ok (.iload_n 3, 1) := by decide +kernel
theorem dX12_seenBy_5 : decode cX12_seenBy 5 = .ok (.aload_n 0, 1) := by decide +kernel
theorem dX12_seenBy_6 : decode cX12_seenBy 6 = .ok (.getfield 148, 3) := by decide +kernel
theorem dX12_seenBy_9 : decode cX12_seenBy 9 = .ok (.if_icmp .ge 24, 3) := by decide +kernel
theorem dX12_seenBy_12 : decode cX12_seenBy 12 = .ok (.aload_n 0, 1) := by decide +kernel
theorem dX12_seenBy_13 : decode cX12_seenBy 13 = .ok (.iload_n 1, 1) := by decide +kernel
theorem dX12_seenBy_14 : decode cX12_seenBy 14 = .ok (.iload_n 3, 1) := by decide +kernel
theorem dX12_seenBy_15 : decode cX12_seenBy 15 = .ok (.invokevirtual 431, 3) := by decide +kernel
theorem dX12_seenBy_18 : decode cX12_seenBy 18 = .ok (.ifCond .eq 9, 3) := by decide +kernel
theorem dX12_seenBy_21 : decode cX12_seenBy 21 = .ok (.iload_n 2, 1) := by decide +kernel
theorem dX12_seenBy_22 : decode cX12_seenBy 22 = .ok (.iconst 1, 1) := by decide +kernel
theorem dX12_seenBy_23 : decode cX12_seenBy 23 = .ok (.iload_n 3, 1) := by decide +kernel
theorem dX12_seenBy_24 : decode cX12_seenBy 24 = .ok (.ishl, 1) := by decide +kernel
theorem dX12_seenBy_25 : decode cX12_seenBy 25 = .ok (.ior, 1) := by decide +kernel
theorem dX12_seenBy_26 : decode cX12_seenBy 26 = .ok (.istore_n 2, 1) := by decide +kernel
theorem dX12_seenBy_27 : decode cX12_seenBy 27 = .ok (.iinc 3 1, 3) := by decide +kernel
theorem dX12_seenBy_30 : decode cX12_seenBy 30 = .ok (.goto (-26), 3) := by decide +kernel
theorem dX12_seenBy_33 : decode cX12_seenBy 33 = .ok (.iload_n 2, 1) := by decide +kernel
theorem dX12_seenBy_34 : decode cX12_seenBy 34 = .ok (.ireturn, 1) := by decide +kernel
theorem dX12_sinceLast_0 : decode cX12_sinceLast 0 = .ok (.aload_n 0, 1) := by decide +kernel
theorem dX12_sinceLast_1 : decode cX12_sinceLast 1 = .ok (.getfield 7, 3) := by decide +kernel
theorem dX12_sinceLast_4 : decode cX12_sinceLast 4 = .ok (.iconst 0, 1) := by decide +kernel
theorem dX12_sinceLast_5 : decode cX12_sinceLast 5 = .ok (.iaload, 1) := by decide +kernel
theorem dX12_sinceLast_6 : decode cX12_sinceLast 6 = .ok (.aload_n 0, 1) := by decide +kernel
theorem dX12_sinceLast_7 : decode cX12_sinceLast 7 = .ok (.getfield 7, 3) := by decide +kernel
theorem dX12_sinceLast_10 : decode cX12_sinceLast 10 = .ok (.bipush 36, 2) := by decide +kernel
theorem dX12_sinceLast_12 : decode cX12_sinceLast 12 = .ok (.iload_n 1, 1) := by decide +kernel
theorem dX12_sinceLast_13 : decode cX12_sinceLast 13 = .ok (.iadd, 1) := by decide +kernel
theorem dX12_sinceLast_14 : decode cX12_sinceLast 14 = .ok (.iaload, 1) := by decide +kernel
theorem dX12_sinceLast_15 : decode cX12_sinceLast 15 = .ok (.iconst 1, 1) := by decide +kernel
theorem dX12_sinceLast_16 : decode cX12_sinceLast 16 = .ok (.isub, 1) := by decide +kernel
theorem dX12_sinceLast_17 : decode cX12_sinceLast 17 = .ok (.isub, 1) := by decide +kernel
theorem dX12_sinceLast_18 : decode cX12_sinceLast 18 = .ok (.ireturn, 1) := by decide +kernel
theorem dX12_snowsOn_0 : decode cX12_snowsOn 0 = .ok (.iconst 0, 1) := by decide +kernel
theorem dX12_snowsOn_1 : decode cX12_snowsOn 1 = .ok (.istore_n 1, 1) := by decide +kernel
theorem dX12_snowsOn_2 : decode cX12_snowsOn 2 = .ok (.iload_n 1, 1) := by decide +kernel
theorem dX12_snowsOn_3 : decode cX12_snowsOn 3 = .ok (.bipush 9, 2) := by decide +kernel
theorem dX12_snowsOn_5 : decode cX12_snowsOn 5 = .ok (.if_icmp .gt 16, 3) := by decide +kernel
theorem dX12_snowsOn_8 : decode cX12_snowsOn 8 = .ok (.aload_n 0, 1) := by decide +kernel
theorem dX12_snowsOn_9 : decode cX12_snowsOn 9 = .ok (.getfield 117, 3) := by decide +kernel
theorem dX12_snowsOn_12 : decode cX12_snowsOn 12 = .ok (.iload_n 1, 1) := by decide +kernel
theorem dX12_snowsOn_13 : decode cX12_snowsOn 13 = .ok (.iconst 0, 1) := by decide +kernel
theorem dX12_snowsOn_14 : decode cX12_snowsOn 14 = .ok (.iastore, 1) := by decide +kernel
theorem dX12_snowsOn_15 : decode cX12_snowsOn 15 = .ok (.iinc 1 1, 3) := by decide +kernel
theorem dX12_snowsOn_18 : decode cX12_snowsOn 18 = .ok (.goto (-16), 3) := by decide +kernel
theorem dX12_snowsOn_21 : decode cX12_snowsOn 21 = .ok (.iconst 0, 1) := by decide +kernel
theorem dX12_snowsOn_22 : decode cX12_snowsOn 22 = .ok (.istore_n 1, 1) := by decide +kernel
theorem dX12_snowsOn_23 : decode cX12_snowsOn 23 = .ok (.iload_n 1, 1) := by decide +kernel
theorem dX12_snowsOn_24 : decode cX12_snowsOn 24 = .ok (.bipush 9, 2) := by decide +kernel
theorem dX12_snowsOn_26 : decode cX12_snowsOn 26 = .ok (.if_icmp .gt 88, 3) := by decide +kernel
theorem dX12_snowsOn_29 : decode cX12_snowsOn 29 = .ok (.aload_n 0, 1) := by decide +kernel
theorem dX12_snowsOn_30 : decode cX12_snowsOn 30 = .ok (.getfield 114, 3) := by decide +kernel
theorem dX12_snowsOn_33 : decode cX12_snowsOn 33 = .ok (.iload_n 1, 1) := by decide +kernel
theorem dX12_snowsOn_34 : decode cX12_snowsOn 34 = .ok (.iaload, 1) := by decide +kernel
theorem dX12_snowsOn_35 : decode cX12_snowsOn 35 = .ok (.i2l, 1) := by decide +kernel
theorem dX12_snowsOn_36 : decode cX12_snowsOn 36 = .ok (.aload_n 0, 1) := by decide +kernel
theorem dX12_snowsOn_37 : decode cX12_snowsOn 37 = .ok (.getfield 166, 3) := by decide +kernel
theorem dX12_snowsOn_40 : decode cX12_snowsOn 40 = .ok (.i2l, 1) := by decide +kernel
theorem dX12_snowsOn_41 : decode cX12_snowsOn 41 = .ok (.lmul, 1) := by decide +kernel
theorem dX12_snowsOn_42 : decode cX12_snowsOn 42 = .ok (.ldc2_w 505, 3) := by decide +kernel
theorem dX12_snowsOn_45 : decode cX12_snowsOn 45 = .ok (.ldiv, 1) := by decide +kernel
theorem dX12_snowsOn_46 : decode cX12_snowsOn 46 = .ok (.l2i, 1) := by decide +kernel
theorem dX12_snowsOn_47 : decode cX12_snowsOn 47 = .ok (.istore_n 2, 1) := by decide +kernel
theorem dX12_snowsOn_48 : decode cX12_snowsOn 48 = .ok (.aload_n 0, 1) := by decide +kernel
theorem dX12_snowsOn_49 : decode cX12_snowsOn 49 = .ok (.iload_n 1, 1) := by decide +kernel
theorem dX12_snowsOn_50 : decode cX12_snowsOn 50 = .ok (.iconst 1, 1) := by decide +kernel
theorem dX12_snowsOn_51 : decode cX12_snowsOn 51 = .ok (.iadd, 1) := by decide +kernel
theorem dX12_snowsOn_52 : decode cX12_snowsOn 52 = .ok (.iconst 0, 1) := by decide +kernel
theorem dX12_snowsOn_53 : decode cX12_snowsOn 53 = .ok (.bipush 9, 2) := by decide +kernel
theorem dX12_snowsOn_55 : decode cX12_snowsOn 55 = .ok (.invokevirtual 374, 3) := by decide +kernel
theorem dX12_snowsOn_58 : decode cX12_snowsOn 58 = .ok (.istore_n 3, 1) := by decide +kernel
theorem dX12_snowsOn_59 : decode cX12_snowsOn 59 = .ok (.aload_n 0, 1) := by decide +kernel
theorem dX12_snowsOn_60 : decode cX12_snowsOn 60 = .ok (.iload_n 1, 1) := by decide +kernel
theorem dX12_snowsOn_61 : decode cX12_snowsOn 61 = .ok (.iconst 1, 1) := by decide +kernel
theorem dX12_snowsOn_62 : decode cX12_snowsOn 62 = .ok (.isub, 1) := by decide +kernel
theorem dX12_snowsOn_63 : decode cX12_snowsOn 63 = .ok (.iconst 0, 1) := by decide +kernel
theorem dX12_snowsOn_64 : decode cX12_snowsOn 64 = .ok (.bipush 9, 2) := by decide +kernel
theorem dX12_snowsOn_66 : decode cX12_snowsOn 66 = .ok (.invokevirtual 374, 3) := by decide +kernel
theorem dX12_snowsOn_69 : decode cX12_snowsOn 69 = .ok (.istore 4, 2) := by decide +kernel
theorem dX12_snowsOn_71 : decode cX12_snowsOn 71 = .ok (.aload_n 0, 1) := by decide +kernel
theorem dX12_snowsOn_72 : decode cX12_snowsOn 72 = .ok (.getfield 117, 3) := by decide +kernel
theorem dX12_snowsOn_75 : decode cX12_snowsOn 75 = .ok (.iload_n 3, 1) := by decide +kernel
theorem dX12_snowsOn_76 : decode cX12_snowsOn 76 = .ok (.aload_n 0, 1) := by decide +kernel
theorem dX12_snowsOn_77 : decode cX12_snowsOn 77 = .ok (.getfield 117, 3) := by decide +kernel
theorem dX12_snowsOn_80 : decode cX12_snowsOn 80 = .ok (.iload_n 3, 1) := by decide +kernel
theorem dX12_snowsOn_81 : decode cX12_snowsOn 81 = .ok (.iaload, 1) := by decide +kernel
theorem dX12_snowsOn_82 : decode cX12_snowsOn 82 = .ok (.iload_n 2, 1) := by decide +kernel
theorem dX12_snowsOn_83 : decode cX12_snowsOn 83 = .ok (.iadd, 1) := by decide +kernel
theorem dX12_snowsOn_84 : decode cX12_snowsOn 84 = .ok (.iastore, 1) := by decide +kernel
theorem dX12_snowsOn_85 : decode cX12_snowsOn 85 = .ok (.aload_n 0, 1) := by decide +kernel
theorem dX12_snowsOn_86 : decode cX12_snowsOn 86 = .ok (.getfield 117, 3) := by decide +kernel
theorem dX12_snowsOn_89 : decode cX12_snowsOn 89 = .ok (.iload 4, 2) := by decide +kernel
theorem dX12_snowsOn_91 : decode cX12_snowsOn 91 = .ok (.aload_n 0, 1) := by decide +kernel
theorem dX12_snowsOn_92 : decode cX12_snowsOn 92 = .ok (.getfield 117, 3) := by decide +kernel
theorem dX12_snowsOn_95 : decode cX12_snowsOn 95 = .ok (.iload 4, 2) := by decide +kernel
theorem dX12_snowsOn_97 : decode cX12_snowsOn 97 = .ok (.iaload, 1) := by decide +kernel
theorem dX12_snowsOn_98 : decode cX12_snowsOn 98 = .ok (.aload_n 0, 1) := by decide +kernel
theorem dX12_snowsOn_99 : decode cX12_snowsOn 99 = .ok (.getfield 114, 3) := by decide +kernel
theorem dX12_snowsOn_102 : decode cX12_snowsOn 102 = .ok (.iload_n 1, 1) := by decide +kernel
theorem dX12_snowsOn_103 : decode cX12_snowsOn 103 = .ok (.iaload, 1) := by decide +kernel
theorem dX12_snowsOn_104 : decode cX12_snowsOn 104 = .ok (.iadd, 1) := by decide +kernel
theorem dX12_snowsOn_105 : decode cX12_snowsOn 105 = .ok (.iload_n 2, 1) := by decide +kernel
theorem dX12_snowsOn_106 : decode cX12_snowsOn 106 = .ok (.isub, 1) := by decide +kernel
theorem dX12_snowsOn_107 : decode cX12_snowsOn 107 = .ok (.iastore, 1) := by decide +kernel
theorem dX12_snowsOn_108 : decode cX12_snowsOn 108 = .ok (.iinc 1 1, 3) := by decide +kernel
theorem dX12_snowsOn_111 : decode cX12_snowsOn 111 = .ok (.goto (-88), 3) := by decide +kernel
theorem dX12_snowsOn_114 : decode cX12_snowsOn 114 = .ok (.iconst 0, 1) := by decide +kernel
theorem dX12_snowsOn_115 : decode cX12_snowsOn 115 = .ok (.istore_n 1, 1) := by decide +kernel
theorem dX12_snowsOn_116 : decode cX12_snowsOn 116 = .ok (.iload_n 1, 1) := by decide +kernel
theorem dX12_snowsOn_117 : decode cX12_snowsOn 117 = .ok (.bipush 9, 2) := by decide +kernel
theorem dX12_snowsOn_119 : decode cX12_snowsOn 119 = .ok (.if_icmp .gt 21, 3) := by decide +kernel
theorem dX12_snowsOn_122 : decode cX12_snowsOn 122 = .ok (.aload_n 0, 1) := by decide +kernel
theorem dX12_snowsOn_123 : decode cX12_snowsOn 123 = .ok (.getfield 114, 3) := by decide +kernel
theorem dX12_snowsOn_126 : decode cX12_snowsOn 126 = .ok (.iload_n 1, 1) := by decide +kernel
theorem dX12_snowsOn_127 : decode cX12_snowsOn 127 = .ok (.aload_n 0, 1) := by decide +kernel
theorem dX12_snowsOn_128 : decode cX12_snowsOn 128 = .ok (.getfield 117, 3) := by decide +kernel
theorem dX12_snowsOn_131 : decode cX12_snowsOn 131 = .ok (.iload_n 1, 1) := by decide +kernel
theorem dX12_snowsOn_132 : decode cX12_snowsOn 132 = .ok (.iaload, 1) := by decide +kernel
theorem dX12_snowsOn_133 : decode cX12_snowsOn 133 = .ok (.iastore, 1) := by decide +kernel
theorem dX12_snowsOn_134 : decode cX12_snowsOn 134 = .ok (.iinc 1 1, 3) := by decide +kernel
theorem dX12_snowsOn_137 : decode cX12_snowsOn 137 = .ok (.goto (-21), 3) := by decide +kernel
theorem dX12_snowsOn_140 : decode cX12_snowsOn 140 = .ok (.return_, 1) := by decide +kernel
theorem dX12_state_0 : decode cX12_state 0 = .ok (.aload_n 0, 1) := by decide +kernel
theorem dX12_state_1 : decode cX12_state 1 = .ok (.iconst 0, 1) := by decide +kernel
theorem dX12_state_2 : decode cX12_state 2 = .ok (.putfield 130, 3) := by decide +kernel
theorem dX12_state_5 : decode cX12_state 5 = .ok (.aload_n 0, 1) := by decide +kernel
theorem dX12_state_6 : decode cX12_state 6 = .ok (.getfield 7, 3) := by decide +kernel
theorem dX12_state_9 : decode cX12_state 9 = .ok (.iconst 1, 1) := by decide +kernel
theorem dX12_state_10 : decode cX12_state 10 = .ok (.iaload, 1) := by decide +kernel
theorem dX12_state_11 : decode cX12_state 11 = .ok (.istore_n 2, 1) := by decide +kernel
theorem dX12_state_12 : decode cX12_state 12 = .ok (.aload_n 0, 1) := by decide +kernel
theorem dX12_state_13 : decode cX12_state 13 = .ok (.getfield 7, 3) := by decide +kernel
theorem dX12_state_16 : decode cX12_state 16 = .ok (.iconst 1, 1) := by decide +kernel
theorem dX12_state_17 : decode cX12_state 17 = .ok (.iload_n 1, 1) := by decide +kernel
theorem dX12_state_18 : decode cX12_state 18 = .ok (.iastore, 1) := by decide +kernel
theorem dX12_state_19 : decode cX12_state 19 = .ok (.aload_n 0, 1) := by decide +kernel
theorem dX12_state_20 : decode cX12_state 20 = .ok (.iconst 0, 1) := by decide +kernel
theorem dX12_state_21 : decode cX12_state 21 = .ok (.putfield 133, 3) := by decide +kernel
theorem dX12_state_24 : decode cX12_state 24 = .ok (.iload_n 2, 1) := by decide +kernel
theorem dX12_state_25 : decode cX12_state 25 = .ok (.ireturn, 1) := by decide +kernel
theorem dX12_sumOf_0 : decode cX12_sumOf 0 = .ok (.lconst 0, 1) := by decide +kernel
theorem dX12_sumOf_1 : decode cX12_sumOf 1 = .ok (.lstore 4, 2) := by decide +kernel
theorem dX12_sumOf_3 : decode cX12_sumOf 3 = .ok (.iconst 0, 1) := by decide +kernel
theorem dX12_sumOf_4 : decode cX12_sumOf 4 = .ok (.istore 6, 2) := by decide +kernel
theorem dX12_sumOf_6 : decode cX12_sumOf 6 = .ok (.iload 6, 2) := by decide +kernel
theorem dX12_sumOf_8 : decode cX12_sumOf 8 = .ok (.aload_n 0, 1) := by decide +kernel
theorem dX12_sumOf_9 : decode cX12_sumOf 9 = .ok (.getfield 148, 3) := by decide +kernel
theorem dX12_sumOf_12 : decode cX12_sumOf 12 = .ok (.if_icmp .ge 33, 3) := by decide +kernel
theorem dX12_sumOf_15 : decode cX12_sumOf 15 = .ok (.aload_n 0, 1) := by decide +kernel
theorem dX12_sumOf_16 : decode cX12_sumOf 16 = .ok (.iload 6, 2) := by decide +kernel
theorem dX12_sumOf_18 : decode cX12_sumOf 18 = .ok (.iload_n 3, 1) := by decide +kernel
theorem dX12_sumOf_19 : decode cX12_sumOf 19 = .ok (.invokevirtual 377, 3) := by decide +kernel
theorem dX12_sumOf_22 : decode cX12_sumOf 22 = .ok (.ifCond .eq 17, 3) := by decide +kernel
theorem dX12_sumOf_25 : decode cX12_sumOf 25 = .ok (.lload 4, 2) := by decide +kernel
theorem dX12_sumOf_27 : decode cX12_sumOf 27 = .ok (.aload_n 1, 1) := by decide +kernel
theorem dX12_sumOf_28 : decode cX12_sumOf 28 = .ok (.bipush 10, 2) := by decide +kernel
theorem dX12_sumOf_30 : decode cX12_sumOf 30 = .ok (.iload_n 2, 1) := by decide +kernel
theorem dX12_sumOf_31 : decode cX12_sumOf 31 = .ok (.imul, 1) := by decide +kernel
theorem dX12_sumOf_32 : decode cX12_sumOf 32 = .ok (.iload 6, 2) := by decide +kernel
theorem dX12_sumOf_34 : decode cX12_sumOf 34 = .ok (.iadd, 1) := by decide +kernel
theorem dX12_sumOf_35 : decode cX12_sumOf 35 = .ok (.laload, 1) := by decide +kernel
theorem dX12_sumOf_36 : decode cX12_sumOf 36 = .ok (.ladd, 1) := by decide +kernel
theorem dX12_sumOf_37 : decode cX12_sumOf 37 = .ok (.lstore 4, 2) := by decide +kernel
theorem dX12_sumOf_39 : decode cX12_sumOf 39 = .ok (.iinc 6 1, 3) := by decide +kernel
theorem dX12_sumOf_42 : decode cX12_sumOf 42 = .ok (.goto (-36), 3) := by decide +kernel
theorem dX12_sumOf_45 : decode cX12_sumOf 45 = .ok (.lload 4, 2) := by decide +kernel
theorem dX12_sumOf_47 : decode cX12_sumOf 47 = .ok (.lreturn, 1) := by decide +kernel
theorem dX12_thinks_0 : decode cX12_thinks 0 = .ok (.iconst 0, 1) := by decide +kernel
theorem dX12_thinks_1 : decode cX12_thinks 1 = .ok (.istore_n 1, 1) := by decide +kernel
theorem dX12_thinks_2 : decode cX12_thinks 2 = .ok (.iload_n 1, 1) := by decide +kernel
theorem dX12_thinks_3 : decode cX12_thinks 3 = .ok (.bipush 66, 2) := by decide +kernel
theorem dX12_thinks_5 : decode cX12_thinks 5 = .ok (.if_icmp .ge 21, 3) := by decide +kernel
theorem dX12_thinks_8 : decode cX12_thinks 8 = .ok (.aload_n 0, 1) := by decide +kernel
theorem dX12_thinks_9 : decode cX12_thinks 9 = .ok (.getfield 16, 3) := by decide +kernel
theorem dX12_thinks_12 : decode cX12_thinks 12 = .ok (.iload_n 1, 1) := by decide +kernel
theorem dX12_thinks_13 : decode cX12_thinks 13 = .ok (.aload_n 0, 1) := by decide +kernel
theorem dX12_thinks_14 : decode cX12_thinks 14 = .ok (.getfield 7, 3) := by decide +kernel
theorem dX12_thinks_17 : decode cX12_thinks 17 = .ok (.iload_n 1, 1) := by decide +kernel
theorem dX12_thinks_18 : decode cX12_thinks 18 = .ok (.iaload, 1) := by decide +kernel
theorem dX12_thinks_19 : decode cX12_thinks 19 = .ok (.iastore, 1) := by decide +kernel
theorem dX12_thinks_20 : decode cX12_thinks 20 = .ok (.iinc 1 1, 3) := by decide +kernel
theorem dX12_thinks_23 : decode cX12_thinks 23 = .ok (.goto (-21), 3) := by decide +kernel
theorem dX12_thinks_26 : decode cX12_thinks 26 = .ok (.aload_n 0, 1) := by decide +kernel
theorem dX12_thinks_27 : decode cX12_thinks 27 = .ok (.iconst 1, 1) := by decide +kernel
theorem dX12_thinks_28 : decode cX12_thinks 28 = .ok (.putfield 136, 3) := by decide +kernel
theorem dX12_thinks_31 : decode cX12_thinks 31 = .ok (.return_, 1) := by decide +kernel
theorem dX12_types_0 : decode cX12_types 0 = .ok (.bipush 24, 2) := by decide +kernel
theorem dX12_types_2 : decode cX12_types 2 = .ok (.istore_n 2, 1) := by decide +kernel
theorem dX12_types_3 : decode cX12_types 3 = .ok (.iload_n 2, 1) := by decide +kernel
theorem dX12_types_4 : decode cX12_types 4 = .ok (.ifCond .lt 35, 3) := by decide +kernel
theorem dX12_types_7 : decode cX12_types 7 = .ok (.aload_n 0, 1) := by decide +kernel
theorem dX12_types_8 : decode cX12_types 8 = .ok (.getfield 43, 3) := by decide +kernel
theorem dX12_types_11 : decode cX12_types 11 = .ok (.aload_n 0, 1) := by decide +kernel
theorem dX12_types_12 : decode cX12_types 12 = .ok (.getfield 172, 3) := by decide +kernel
theorem dX12_types_15 : decode cX12_types 15 = .ok (.iload_n 1, 1) := by decide +kernel
theorem dX12_types_16 : decode cX12_types 16 = .ok (.iload_n 2, 1) := by decide +kernel
theorem dX12_types_17 : decode cX12_types 17 = .ok (.ishr, 1) := by decide +kernel
theorem dX12_types_18 : decode cX12_types 18 = .ok (.sipush 255, 3) := by decide +kernel
theorem dX12_types_21 : decode cX12_types 21 = .ok (.iand, 1) := by decide +kernel
theorem dX12_types_22 : decode cX12_types 22 = .ok (.iastore, 1) := by decide +kernel
theorem dX12_types_23 : decode cX12_types 23 = .ok (.aload_n 0, 1) := by decide +kernel
theorem dX12_types_24 : decode cX12_types 24 = .ok (.aload_n 0, 1) := by decide +kernel
theorem dX12_types_25 : decode cX12_types 25 = .ok (.getfield 172, 3) := by decide +kernel
theorem dX12_types_28 : decode cX12_types 28 = .ok (.iconst 1, 1) := by decide +kernel
theorem dX12_types_29 : decode cX12_types 29 = .ok (.iadd, 1) := by decide +kernel
theorem dX12_types_30 : decode cX12_types 30 = .ok (.putfield 172, 3) := by decide +kernel
theorem dX12_types_33 : decode cX12_types 33 = .ok (.iinc 2 (-8), 3) := by decide +kernel
theorem dX12_types_36 : decode cX12_types 36 = .ok (.goto (-33), 3) := by decide +kernel
theorem dX12_types_39 : decode cX12_types 39 = .ok (.return_, 1) := by decide +kernel
theorem dX12_without_0 : decode cX12_without 0 = .ok (.iload_n 1, 1) := by decide +kernel
theorem dX12_without_1 : decode cX12_without 1 = .ok (.ifCond .ge 8, 3) := by decide +kernel
theorem dX12_without_4 : decode cX12_without 4 = .ok (.iload_n 1, 1) := by decide +kernel
theorem dX12_without_5 : decode cX12_without 5 = .ok (.ineg, 1) := by decide +kernel
theorem dX12_without_6 : decode cX12_without 6 = .ok (.goto 4, 3) := by decide +kernel
theorem dX12_without_9 : decode cX12_without 9 = .ok (.iload_n 1, 1) := by decide +kernel
theorem dX12_without_10 : decode cX12_without 10 = .ok (.ireturn, 1) := by decide +kernel
theorem dX12_worthAt_0 : decode cX12_worthAt 0 = .ok (.iconst 0, 1) := by decide +kernel
theorem dX12_worthAt_1 : decode cX12_worthAt 1 = .ok (.istore_n 2, 1) := by decide +kernel
theorem dX12_worthAt_2 : decode cX12_worthAt 2 = .ok (.iconst 0, 1) := by decide +kernel
theorem dX12_worthAt_3 : decode cX12_worthAt 3 = .ok (.istore_n 3, 1) := by decide +kernel
theorem dX12_worthAt_4 : decode cX12_worthAt 4 = .ok (.iload_n 3, 1) := by decide +kernel
theorem dX12_worthAt_5 : decode cX12_worthAt 5 = .ok (.aload_n 0, 1) := by decide +kernel
theorem dX12_worthAt_6 : decode cX12_worthAt 6 = .ok (.getfield 324, 3) := by decide +kernel
theorem dX12_worthAt_9 : decode cX12_worthAt 9 = .ok (.if_icmp .ge 36, 3) := by decide +kernel
theorem dX12_worthAt_12 : decode cX12_worthAt 12 = .ok (.aload_n 0, 1) := by decide +kernel
theorem dX12_worthAt_13 : decode cX12_worthAt 13 = .ok (.iload_n 3, 1) := by decide +kernel
theorem dX12_worthAt_14 : decode cX12_worthAt 14 = .ok (.iconst 1, 1) := by decide +kernel
theorem dX12_worthAt_15 : decode cX12_worthAt 15 = .ok (.invokevirtual 356, 3) := by decide +kernel
theorem dX12_worthAt_18 : decode cX12_worthAt 18 = .ok (.iload_n 1, 1) := by decide +kernel
theorem dX12_worthAt_19 : decode cX12_worthAt 19 = .ok (.if_icmp .ne 20, 3) := by decide +kernel
theorem dX12_worthAt_22 : decode cX12_worthAt 22 = .ok (.aload_n 0, 1) := by decide +kernel
theorem dX12_worthAt_23 : decode cX12_worthAt 23 = .ok (.iload_n 3, 1) := by decide +kernel
theorem dX12_worthAt_24 : decode cX12_worthAt 24 = .ok (.invokevirtual 359, 3) := by decide +kernel
theorem dX12_worthAt_27 : decode cX12_worthAt 27 = .ok (.ifCond .eq 12, 3) := by decide +kernel
theorem dX12_worthAt_30 : decode cX12_worthAt 30 = .ok (.iload_n 2, 1) := by decide +kernel
theorem dX12_worthAt_31 : decode cX12_worthAt 31 = .ok (.aload_n 0, 1) := by decide +kernel
theorem dX12_worthAt_32 : decode cX12_worthAt 32 = .ok (.iload_n 3, 1) := by decide +kernel
theorem dX12_worthAt_33 : decode cX12_worthAt 33 = .ok (.iconst 4, 1) := by decide +kernel
theorem dX12_worthAt_34 : decode cX12_worthAt 34 = .ok (.invokevirtual 356, 3) := by decide +kernel
theorem dX12_worthAt_37 : decode cX12_worthAt 37 = .ok (.iadd, 1) := by decide +kernel
theorem dX12_worthAt_38 : decode cX12_worthAt 38 = .ok (.istore_n 2, 1) := by decide +kernel
theorem dX12_worthAt_39 : decode cX12_worthAt 39 = .ok (.iinc 3 1, 3) := by decide +kernel
theorem dX12_worthAt_42 : decode cX12_worthAt 42 = .ok (.goto (-38), 3) := by decide +kernel
theorem dX12_worthAt_45 : decode cX12_worthAt 45 = .ok (.iload_n 2, 1) := by decide +kernel
theorem dX12_worthAt_46 : decode cX12_worthAt 46 = .ok (.ireturn, 1) := by decide +kernel
theorem q_100 : Cond.selects RX12 yX12_ofNeed yX12_ofNeed ∈ GW := inG 100 (by decide +kernel) (by decide +kernel)
theorem q_101 : Cond.selects RX12 yX12_isOpen yX12_isOpen ∈ GW := inG 101 (by decide +kernel) (by decide +kernel)
theorem q_106 : Cond.selects RX12 yX12_held yX12_held ∈ GW := inG 106 (by decide +kernel) (by decide +kernel)
theorem q_110 : Cond.selects RX12 yX12_due yX12_due ∈ GW := inG 110 (by decide +kernel) (by decide +kernel)
theorem q_116 : Cond.selects RX12 yX12_doesEnvy yX12_doesEnvy ∈ GW := inG 116 (by decide +kernel) (by decide +kernel)
theorem q_118 : Cond.selects RX12 yX12_doesSee yX12_doesSee ∈ GW := inG 118 (by decide +kernel) (by decide +kernel)
theorem q_119 : Cond.selects RX12 yX12_without yX12_without ∈ GW := inG 119 (by decide +kernel) (by decide +kernel)
theorem q_120 : Cond.selects RX12 yX12_isBetween yX12_isBetween ∈ GW := inG 120 (by decide +kernel) (by decide +kernel)
theorem q_1399 : Cond.fieldLink RX12 130 "LampRoundModel" "told" "I" ∈ GW := inG 1399 (by decide +kernel) (by decide +kernel)
theorem q_140 : Cond.selects RX12 yX12_snowsOn yX12_snowsOn ∈ GW := inG 140 (by decide +kernel) (by decide +kernel)
theorem q_1400 : Cond.fieldLink RX12 7 "LampRoundModel" "now" "[I" ∈ GW := inG 1400 (by decide +kernel) (by decide +kernel)
theorem q_1402 : Cond.fieldLink RX12 133 "LampRoundModel" "undoable" "I" ∈ GW := inG 1402 (by decide +kernel) (by decide +kernel)
theorem q_1403 : Cond.fieldLink RX12 16 "LampRoundModel" "waiting" "[I" ∈ GW := inG 1403 (by decide +kernel) (by decide +kernel)
theorem q_1404 : Cond.fieldLink RX12 136 "LampRoundModel" "isThought" "Z" ∈ GW := inG 1404 (by decide +kernel) (by decide +kernel)
theorem q_1405 : Cond.fieldLink RX12 148 "LampRoundModel" "houses" "I" ∈ GW := inG 1405 (by decide +kernel) (by decide +kernel)
theorem q_1406 : Cond.fieldLink RX12 19 "LampRoundModel" "placeOf" "[I" ∈ GW := inG 1406 (by decide +kernel) (by decide +kernel)
theorem q_1407 : Cond.fieldLink RX12 22 "LampRoundModel" "peopleOf" "[I" ∈ GW := inG 1407 (by decide +kernel) (by decide +kernel)
theorem q_1408 : Cond.fieldLink RX12 25 "LampRoundModel" "bidOf" "[I" ∈ GW := inG 1408 (by decide +kernel) (by decide +kernel)
theorem q_1409 : Cond.fieldLink RX12 28 "LampRoundModel" "saysOf" "[I" ∈ GW := inG 1409 (by decide +kernel) (by decide +kernel)
theorem q_1411 : Cond.fieldLink RX12 166 "LampRoundModel" "flakes" "I" ∈ GW := inG 1411 (by decide +kernel) (by decide +kernel)
theorem q_1412 : Cond.fieldLink RX12 169 "LampRoundModel" "margin" "I" ∈ GW := inG 1412 (by decide +kernel) (by decide +kernel)
theorem q_1413 : Cond.fieldLink RX12 142 "LampRoundModel" "duskBut" "I" ∈ GW := inG 1413 (by decide +kernel) (by decide +kernel)
theorem q_1414 : Cond.fieldLink RX12 145 "LampRoundModel" "dueBut" "I" ∈ GW := inG 1414 (by decide +kernel) (by decide +kernel)
theorem q_1416 : Cond.fieldLink RX12 517 "LampRoundModel" "clueMany" "I" ∈ GW := inG 1416 (by decide +kernel) (by decide +kernel)
theorem q_1417 : Cond.fieldLink RX12 37 "LampRoundModel" "clueNight" "[I" ∈ GW := inG 1417 (by decide +kernel) (by decide +kernel)
theorem q_1418 : Cond.fieldLink RX12 40 "LampRoundModel" "clueSet" "[I" ∈ GW := inG 1418 (by decide +kernel) (by decide +kernel)
theorem q_1419 : Cond.fieldLink RX12 43 "LampRoundModel" "tape" "[I" ∈ GW := inG 1419 (by decide +kernel) (by decide +kernel)
theorem q_1420 : Cond.fieldLink RX12 172 "LampRoundModel" "taped" "I" ∈ GW := inG 1420 (by decide +kernel) (by decide +kernel)
theorem q_1422 : Cond.fieldLink RX12 185 "LampRoundModel" "from" "I" ∈ GW := inG 1422 (by decide +kernel) (by decide +kernel)
theorem q_1423 : Cond.fieldLink RX12 188 "LampRoundModel" "token" "I" ∈ GW := inG 1423 (by decide +kernel) (by decide +kernel)
theorem q_1424 : Cond.fieldLink RX12 191 "LampRoundModel" "value" "I" ∈ GW := inG 1424 (by decide +kernel) (by decide +kernel)
theorem q_1437 : Cond.fieldLink RX12 207 "LampRoundModel" "readFault" "I" ∈ GW := inG 1437 (by decide +kernel) (by decide +kernel)
theorem q_1438 : Cond.fieldLink RX12 210 "LampRoundModel" "readPlace" "I" ∈ GW := inG 1438 (by decide +kernel) (by decide +kernel)
theorem q_1439 : Cond.fieldLink RX12 330 "LampRoundModel" "faultKind" "I" ∈ GW := inG 1439 (by decide +kernel) (by decide +kernel)
theorem q_1440 : Cond.fieldLink RX12 70 "LampRoundModel" "faultPlace" "I" ∈ GW := inG 1440 (by decide +kernel) (by decide +kernel)
theorem q_1441 : Cond.fieldLink RX12 321 "LampRoundModel" "pathMany" "I" ∈ GW := inG 1441 (by decide +kernel) (by decide +kernel)
theorem q_1442 : Cond.fieldLink RX12 74 "LampRoundModel" "paths" "[I" ∈ GW := inG 1442 (by decide +kernel) (by decide +kernel)
theorem q_1443 : Cond.fieldLink RX12 324 "LampRoundModel" "needMany" "I" ∈ GW := inG 1443 (by decide +kernel) (by decide +kernel)
theorem q_1444 : Cond.fieldLink RX12 77 "LampRoundModel" "needs" "[I" ∈ GW := inG 1444 (by decide +kernel) (by decide +kernel)
theorem q_1454 : Cond.fieldLink RX12 101 "LampRoundModel" "farOf" "[I" ∈ GW := inG 1454 (by decide +kernel) (by decide +kernel)
theorem q_1461 : Cond.fieldLink RX12 114 "LampRoundModel" "chances" "[I" ∈ GW := inG 1461 (by decide +kernel) (by decide +kernel)
theorem q_1462 : Cond.fieldLink RX12 117 "LampRoundModel" "chancesThen" "[I" ∈ GW := inG 1462 (by decide +kernel) (by decide +kernel)
theorem q_1463 : Cond.fieldLink RX12 120 "LampRoundModel" "rowsTo" "[J" ∈ GW := inG 1463 (by decide +kernel) (by decide +kernel)
theorem q_1464 : Cond.fieldLink RX12 124 "LampRoundModel" "rowsFrom" "[J" ∈ GW := inG 1464 (by decide +kernel) (by decide +kernel)
theorem q_162 : Cond.initialized RX12 ∈ GW := inG 162 (by decide +kernel) (by decide +kernel)
theorem q_1622 : Cond.methodLink RX12 151 yX12_isIn ∈ GW := inG 1622 (by decide +kernel) (by decide +kernel)
theorem q_1624 : Cond.instanceMethod yX12_isIn ∈ GW := inG 1624 (by decide +kernel) (by decide +kernel)
theorem q_1625 : Cond.code yX12_isIn cX12_isIn 4 (some .boolean) ∈ GW := inG 1625 (by decide +kernel) (by decide +kernel)
theorem q_1650 : Cond.methodLink RX12 175 yX12_types ∈ GW := inG 1650 (by decide +kernel) (by decide +kernel)
theorem q_1652 : Cond.instanceMethod yX12_types ∈ GW := inG 1652 (by decide +kernel) (by decide +kernel)
theorem q_1653 : Cond.code yX12_types cX12_types 3 none ∈ GW := inG 1653 (by decide +kernel) (by decide +kernel)
theorem q_1826 : Cond.constant RX12 349 (100000) ∈ GW := inG 1826 (by decide +kernel) (by decide +kernel)
theorem q_1843 : Cond.methodLink RX12 377 yX12_isReached ∈ GW := inG 1843 (by decide +kernel) (by decide +kernel)
theorem q_1845 : Cond.instanceMethod yX12_isReached ∈ GW := inG 1845 (by decide +kernel) (by decide +kernel)
theorem q_1846 : Cond.code yX12_isReached cX12_isReached 3 (some .boolean) ∈ GW := inG 1846 (by decide +kernel) (by decide +kernel)
theorem q_1847 : Cond.methodLink RX12 350 yX12_dusk ∈ GW := inG 1847 (by decide +kernel) (by decide +kernel)
theorem q_1849 : Cond.instanceMethod yX12_dusk ∈ GW := inG 1849 (by decide +kernel) (by decide +kernel)
theorem q_1850 : Cond.code yX12_dusk cX12_dusk 1 (some .int) ∈ GW := inG 1850 (by decide +kernel) (by decide +kernel)
theorem q_1863 : Cond.methodLink RX12 362 yX12_sinceLast ∈ GW := inG 1863 (by decide +kernel) (by decide +kernel)
theorem q_1865 : Cond.instanceMethod yX12_sinceLast ∈ GW := inG 1865 (by decide +kernel) (by decide +kernel)
theorem q_1866 : Cond.code yX12_sinceLast cX12_sinceLast 2 (some .int) ∈ GW := inG 1866 (by decide +kernel) (by decide +kernel)
theorem q_1871 : Cond.methodLink RX12 356 yX12_ofNeed ∈ GW := inG 1871 (by decide +kernel) (by decide +kernel)
theorem q_1873 : Cond.instanceMethod yX12_ofNeed ∈ GW := inG 1873 (by decide +kernel) (by decide +kernel)
theorem q_1874 : Cond.code yX12_ofNeed cX12_ofNeed 3 (some .int) ∈ GW := inG 1874 (by decide +kernel) (by decide +kernel)
theorem q_1875 : Cond.methodLink RX12 359 yX12_isOpen ∈ GW := inG 1875 (by decide +kernel) (by decide +kernel)
theorem q_1877 : Cond.instanceMethod yX12_isOpen ∈ GW := inG 1877 (by decide +kernel) (by decide +kernel)
theorem q_1878 : Cond.code yX12_isOpen cX12_isOpen 2 (some .boolean) ∈ GW := inG 1878 (by decide +kernel) (by decide +kernel)
theorem q_1895 : Cond.methodLink RX12 374 yX12_held ∈ GW := inG 1895 (by decide +kernel) (by decide +kernel)
theorem q_1897 : Cond.instanceMethod yX12_held ∈ GW := inG 1897 (by decide +kernel) (by decide +kernel)
theorem q_1898 : Cond.code yX12_held cX12_held 4 (some .int) ∈ GW := inG 1898 (by decide +kernel) (by decide +kernel)
theorem q_1911 : Cond.methodLink RX12 384 yX12_due ∈ GW := inG 1911 (by decide +kernel) (by decide +kernel)
theorem q_1913 : Cond.instanceMethod yX12_due ∈ GW := inG 1913 (by decide +kernel) (by decide +kernel)
theorem q_1914 : Cond.code yX12_due cX12_due 1 (some .int) ∈ GW := inG 1914 (by decide +kernel) (by decide +kernel)
theorem q_1927 : Cond.constant RX12 140 (1664525) ∈ GW := inG 1927 (by decide +kernel) (by decide +kernel)
theorem q_1928 : Cond.constant RX12 141 (1013904223) ∈ GW := inG 1928 (by decide +kernel) (by decide +kernel)
theorem q_1942 : Cond.methodLink RX12 422 yX12_doesEnvy ∈ GW := inG 1942 (by decide +kernel) (by decide +kernel)
theorem q_1944 : Cond.instanceMethod yX12_doesEnvy ∈ GW := inG 1944 (by decide +kernel) (by decide +kernel)
theorem q_1945 : Cond.code yX12_doesEnvy cX12_doesEnvy 3 (some .boolean) ∈ GW := inG 1945 (by decide +kernel) (by decide +kernel)
theorem q_1950 : Cond.methodLink RX12 431 yX12_doesSee ∈ GW := inG 1950 (by decide +kernel) (by decide +kernel)
theorem q_1952 : Cond.instanceMethod yX12_doesSee ∈ GW := inG 1952 (by decide +kernel) (by decide +kernel)
theorem q_1953 : Cond.code yX12_doesSee cX12_doesSee 5 (some .boolean) ∈ GW := inG 1953 (by decide +kernel) (by decide +kernel)
theorem q_1954 : Cond.methodLink RX12 425 yX12_without ∈ GW := inG 1954 (by decide +kernel) (by decide +kernel)
theorem q_1956 : Cond.instanceMethod yX12_without ∈ GW := inG 1956 (by decide +kernel) (by decide +kernel)
theorem q_1957 : Cond.code yX12_without cX12_without 2 (some .int) ∈ GW := inG 1957 (by decide +kernel) (by decide +kernel)
theorem q_1958 : Cond.methodLink RX12 428 yX12_isBetween ∈ GW := inG 1958 (by decide +kernel) (by decide +kernel)
theorem q_1960 : Cond.instanceMethod yX12_isBetween ∈ GW := inG 1960 (by decide +kernel) (by decide +kernel)
theorem q_1961 : Cond.code yX12_isBetween cX12_isBetween 9 (some .boolean) ∈ GW := inG 1961 (by decide +kernel) (by decide +kernel)
theorem q_2074 : Cond.constant RX12 507 (1000000) ∈ GW := inG 2074 (by decide +kernel) (by decide +kernel)
theorem q_2075 : Cond.methodLink RX12 508 yX12_snowsOn ∈ GW := inG 2075 (by decide +kernel) (by decide +kernel)
theorem q_2077 : Cond.instanceMethod yX12_snowsOn ∈ GW := inG 2077 (by decide +kernel) (by decide +kernel)
theorem q_2078 : Cond.code yX12_snowsOn cX12_snowsOn 5 none ∈ GW := inG 2078 (by decide +kernel) (by decide +kernel)
theorem q_2079 : Cond.constantLong RX12 505 (1000) ∈ GW := inG 2079 (by decide +kernel) (by decide +kernel)
theorem q_46 : Cond.selects RX12 yX12_isIn yX12_isIn ∈ GW := inG 46 (by decide +kernel) (by decide +kernel)
theorem q_50 : Cond.selects RX12 yX12_types yX12_types ∈ GW := inG 50 (by decide +kernel) (by decide +kernel)
theorem q_93 : Cond.selects RX12 yX12_isReached yX12_isReached ∈ GW := inG 93 (by decide +kernel) (by decide +kernel)
theorem q_94 : Cond.selects RX12 yX12_dusk yX12_dusk ∈ GW := inG 94 (by decide +kernel) (by decide +kernel)
theorem q_98 : Cond.selects RX12 yX12_sinceLast yX12_sinceLast ∈ GW := inG 98 (by decide +kernel) (by decide +kernel)
theorem hdV_X12_doesEnvy : yX12_doesEnvy.cls = RX12 ∧ yX12_doesEnvy.cls ≠ "java/lang/invoke/MethodHandle" ∧ yX12_doesEnvy.cls ≠ "java/lang/invoke/VarHandle" ∧ (parseMethodDescriptor yX12_doesEnvy.desc).map (fun d => d.parameters.length) = some 2 := by decide +kernel
theorem hdV_X12_doesSee : yX12_doesSee.cls = RX12 ∧ yX12_doesSee.cls ≠ "java/lang/invoke/MethodHandle" ∧ yX12_doesSee.cls ≠ "java/lang/invoke/VarHandle" ∧ (parseMethodDescriptor yX12_doesSee.desc).map (fun d => d.parameters.length) = some 2 := by decide +kernel
theorem hdV_X12_due : yX12_due.cls = RX12 ∧ yX12_due.cls ≠ "java/lang/invoke/MethodHandle" ∧ yX12_due.cls ≠ "java/lang/invoke/VarHandle" ∧ (parseMethodDescriptor yX12_due.desc).map (fun d => d.parameters.length) = some 0 := by decide +kernel
theorem hdV_X12_dusk : yX12_dusk.cls = RX12 ∧ yX12_dusk.cls ≠ "java/lang/invoke/MethodHandle" ∧ yX12_dusk.cls ≠ "java/lang/invoke/VarHandle" ∧ (parseMethodDescriptor yX12_dusk.desc).map (fun d => d.parameters.length) = some 0 := by decide +kernel
theorem hdV_X12_held : yX12_held.cls = RX12 ∧ yX12_held.cls ≠ "java/lang/invoke/MethodHandle" ∧ yX12_held.cls ≠ "java/lang/invoke/VarHandle" ∧ (parseMethodDescriptor yX12_held.desc).map (fun d => d.parameters.length) = some 3 := by decide +kernel
theorem hdV_X12_isBetween : yX12_isBetween.cls = RX12 ∧ yX12_isBetween.cls ≠ "java/lang/invoke/MethodHandle" ∧ yX12_isBetween.cls ≠ "java/lang/invoke/VarHandle" ∧ (parseMethodDescriptor yX12_isBetween.desc).map (fun d => d.parameters.length) = some 3 := by decide +kernel
theorem hdV_X12_isIn : yX12_isIn.cls = RX12 ∧ yX12_isIn.cls ≠ "java/lang/invoke/MethodHandle" ∧ yX12_isIn.cls ≠ "java/lang/invoke/VarHandle" ∧ (parseMethodDescriptor yX12_isIn.desc).map (fun d => d.parameters.length) = some 3 := by decide +kernel
theorem hdV_X12_isOpen : yX12_isOpen.cls = RX12 ∧ yX12_isOpen.cls ≠ "java/lang/invoke/MethodHandle" ∧ yX12_isOpen.cls ≠ "java/lang/invoke/VarHandle" ∧ (parseMethodDescriptor yX12_isOpen.desc).map (fun d => d.parameters.length) = some 1 := by decide +kernel
theorem hdV_X12_isReached : yX12_isReached.cls = RX12 ∧ yX12_isReached.cls ≠ "java/lang/invoke/MethodHandle" ∧ yX12_isReached.cls ≠ "java/lang/invoke/VarHandle" ∧ (parseMethodDescriptor yX12_isReached.desc).map (fun d => d.parameters.length) = some 2 := by decide +kernel
theorem hdV_X12_ofNeed : yX12_ofNeed.cls = RX12 ∧ yX12_ofNeed.cls ≠ "java/lang/invoke/MethodHandle" ∧ yX12_ofNeed.cls ≠ "java/lang/invoke/VarHandle" ∧ (parseMethodDescriptor yX12_ofNeed.desc).map (fun d => d.parameters.length) = some 2 := by decide +kernel
theorem hdV_X12_sinceLast : yX12_sinceLast.cls = RX12 ∧ yX12_sinceLast.cls ≠ "java/lang/invoke/MethodHandle" ∧ yX12_sinceLast.cls ≠ "java/lang/invoke/VarHandle" ∧ (parseMethodDescriptor yX12_sinceLast.desc).map (fun d => d.parameters.length) = some 1 := by decide +kernel
theorem hdV_X12_snowsOn : yX12_snowsOn.cls = RX12 ∧ yX12_snowsOn.cls ≠ "java/lang/invoke/MethodHandle" ∧ yX12_snowsOn.cls ≠ "java/lang/invoke/VarHandle" ∧ (parseMethodDescriptor yX12_snowsOn.desc).map (fun d => d.parameters.length) = some 0 := by decide +kernel
theorem hdV_X12_types : yX12_types.cls = RX12 ∧ yX12_types.cls ≠ "java/lang/invoke/MethodHandle" ∧ yX12_types.cls ≠ "java/lang/invoke/VarHandle" ∧ (parseMethodDescriptor yX12_types.desc).map (fun d => d.parameters.length) = some 1 := by decide +kernel
theorem hdV_X12_without : yX12_without.cls = RX12 ∧ yX12_without.cls ≠ "java/lang/invoke/MethodHandle" ∧ yX12_without.cls ≠ "java/lang/invoke/VarHandle" ∧ (parseMethodDescriptor yX12_without.desc).map (fun d => d.parameters.length) = some 1 := by decide +kernel
theorem inX12 : ∀ w ∈ u_ws RX12 TX12 70, w ∈ GW := inGs _ [1469, 1471, 1473, 1475, 1477, 1479, 1481, 1483, 1485, 1487, 1489, 1491, 1493, 1495, 1497, 1499, 1501, 1503, 1505, 1507, 1509, 1511, 1513, 1515, 1517, 1519, 1521, 1523, 1525, 1527, 1529, 1531, 1533, 1535, 1537, 1539, 1541, 1543, 1545, 1547, 1549, 1551, 1553, 1555, 1557, 1559, 1561, 1563, 1565, 1567, 1569, 1571, 1573, 1575, 1577, 1579, 1581, 1583, 1585, 1587, 1589, 1591, 1593, 1595, 1597, 1599, 1601, 1603, 1605, 1607] (by decide +kernel) (by decide +kernel)
