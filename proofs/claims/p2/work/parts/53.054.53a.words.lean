theorem dX0_left_0 : decode cX0_left 0 = .ok (.iload_n 2, 1) := by decide +kernel
theorem dX0_left_1 : decode cX0_left 1 = .ok (.istore_n 3, 1) := by decide +kernel
theorem dX0_left_2 : decode cX0_left 2 = .ok (.iconst 0, 1) := by decide +kernel
theorem dX0_left_3 : decode cX0_left 3 = .ok (.istore 4, 2) := by decide +kernel
theorem dX0_left_5 : decode cX0_left 5 = .ok (.iload 4, 2) := by decide +kernel
theorem dX0_left_7 : decode cX0_left 7 = .ok (.aload_n 0, 1) := by decide +kernel
theorem dX0_left_8 : decode cX0_left 8 = .ok (.getfield 24, 3) := by decide +kernel
theorem dX0_left_11 : decode cX0_left 11 = .ok (.if_icmp .ge 37, 3) := by decide +kernel
theorem dX0_left_14 : decode cX0_left 14 = .ok (.iload 4, 2) := by decide +kernel
theorem dX0_left_16 : decode cX0_left 16 = .ok (.bipush 8, 2) := by decide +kernel
theorem dX0_left_18 : decode cX0_left 18 = .ok (.if_icmp .ge 30, 3) := by decide +kernel
theorem dX0_left_21 : decode cX0_left 21 = .ok (.aload_n 0, 1) := by decide +kernel
theorem dX0_left_22 : decode cX0_left 22 = .ok (.getfield 9, 3) := by decide +kernel
theorem dX0_left_25 : decode cX0_left 25 = .ok (.iload 4, 2) := by decide +kernel
theorem dX0_left_27 : decode cX0_left 27 = .ok (.iaload, 1) := by decide +kernel
theorem dX0_left_28 : decode cX0_left 28 = .ok (.iload_n 1, 1) := by decide +kernel
theorem dX0_left_29 : decode cX0_left 29 = .ok (.if_icmp .ne 13, 3) := by decide +kernel
theorem dX0_left_32 : decode cX0_left 32 = .ok (.iload_n 3, 1) := by decide +kernel
theorem dX0_left_33 : decode cX0_left 33 = .ok (.aload_n 0, 1) := by decide +kernel
theorem dX0_left_34 : decode cX0_left 34 = .ok (.getfield 15, 3) := by decide +kernel
theorem dX0_left_37 : decode cX0_left 37 = .ok (.iload 4, 2) := by decide +kernel
theorem dX0_left_39 : decode cX0_left 39 = .ok (.iaload, 1) := by decide +kernel
theorem dX0_left_40 : decode cX0_left 40 = .ok (.iand, 1) := by decide +kernel
theorem dX0_left_41 : decode cX0_left 41 = .ok (.istore_n 3, 1) := by decide +kernel
theorem dX0_left_42 : decode cX0_left 42 = .ok (.iinc 4 1, 3) := by decide +kernel
theorem dX0_left_45 : decode cX0_left 45 = .ok (.goto (-40), 3) := by decide +kernel
theorem dX0_left_48 : decode cX0_left 48 = .ok (.iload_n 3, 1) := by decide +kernel
theorem dX0_left_49 : decode cX0_left 49 = .ok (.ireturn, 1) := by decide +kernel
theorem dX0_take_0 : decode cX0_take 0 = .ok (.aload_n 1, 1) := by decide +kernel
theorem dX0_take_1 : decode cX0_take 1 = .ok (.getfield 9, 3) := by decide +kernel
theorem dX0_take_4 : decode cX0_take 4 = .ok (.iconst 0, 1) := by decide +kernel
theorem dX0_take_5 : decode cX0_take 5 = .ok (.aload_n 0, 1) := by decide +kernel
theorem dX0_take_6 : decode cX0_take 6 = .ok (.getfield 9, 3) := by decide +kernel
theorem dX0_take_9 : decode cX0_take 9 = .ok (.iconst 0, 1) := by decide +kernel
theorem dX0_take_10 : decode cX0_take 10 = .ok (.bipush 8, 2) := by decide +kernel
theorem dX0_take_12 : decode cX0_take 12 = .ok (.invokestatic 18, 3) := by decide +kernel
theorem dX0_take_15 : decode cX0_take 15 = .ok (.aload_n 1, 1) := by decide +kernel
theorem dX0_take_16 : decode cX0_take 16 = .ok (.getfield 15, 3) := by decide +kernel
theorem dX0_take_19 : decode cX0_take 19 = .ok (.iconst 0, 1) := by decide +kernel
theorem dX0_take_20 : decode cX0_take 20 = .ok (.aload_n 0, 1) := by decide +kernel
theorem dX0_take_21 : decode cX0_take 21 = .ok (.getfield 15, 3) := by decide +kernel
theorem dX0_take_24 : decode cX0_take 24 = .ok (.iconst 0, 1) := by decide +kernel
theorem dX0_take_25 : decode cX0_take 25 = .ok (.bipush 8, 2) := by decide +kernel
theorem dX0_take_27 : decode cX0_take 27 = .ok (.invokestatic 18, 3) := by decide +kernel
theorem dX0_take_30 : decode cX0_take 30 = .ok (.aload_n 0, 1) := by decide +kernel
theorem dX0_take_31 : decode cX0_take 31 = .ok (.aload_n 1, 1) := by decide +kernel
theorem dX0_take_32 : decode cX0_take 32 = .ok (.getfield 24, 3) := by decide +kernel
theorem dX0_take_35 : decode cX0_take 35 = .ok (.putfield 24, 3) := by decide +kernel
theorem dX0_take_38 : decode cX0_take 38 = .ok (.return_, 1) := by decide +kernel
theorem dX3_isOpen_0 : decode cX3_isOpen 0 = .ok (.aload_n 2, 1) := by decide +kernel
theorem dX3_isOpen_1 : decode cX3_isOpen 1 = .ok (.getfield 66, 3) := by decide +kernel
theorem dX3_isOpen_4 : decode cX3_isOpen 4 = .ok (.iload_n 1, 1) := by decide +kernel
theorem dX3_isOpen_5 : decode cX3_isOpen 5 = .ok (.iaload, 1) := by decide +kernel
theorem dX3_isOpen_6 : decode cX3_isOpen 6 = .ok (.iconst (-1), 1) := by decide +kernel
theorem dX3_isOpen_7 : decode cX3_isOpen 7 = .ok (.if_icmp .ne 15, 3) := by decide +kernel
theorem dX3_isOpen_10 : decode cX3_isOpen 10 = .ok (.aload_n 2, 1) := by decide +kernel
theorem dX3_isOpen_11 : decode cX3_isOpen 11 = .ok (.getfield 71, 3) := by decide +kernel
theorem dX3_isOpen_14 : decode cX3_isOpen 14 = .ok (.iload_n 1, 1) := by decide +kernel
theorem dX3_isOpen_15 : decode cX3_isOpen 15 = .ok (.ishr, 1) := by decide +kernel
theorem dX3_isOpen_16 : decode cX3_isOpen 16 = .ok (.iconst 1, 1) := by decide +kernel
theorem dX3_isOpen_17 : decode cX3_isOpen 17 = .ok (.iand, 1) := by decide +kernel
theorem dX3_isOpen_18 : decode cX3_isOpen 18 = .ok (.iconst 1, 1) := by decide +kernel
theorem dX3_isOpen_19 : decode cX3_isOpen 19 = .ok (.if_icmp .ne 7, 3) := by decide +kernel
theorem dX3_isOpen_22 : decode cX3_isOpen 22 = .ok (.iconst 1, 1) := by decide +kernel
theorem dX3_isOpen_23 : decode cX3_isOpen 23 = .ok (.goto 4, 3) := by decide +kernel
theorem dX3_isOpen_26 : decode cX3_isOpen 26 = .ok (.iconst 0, 1) := by decide +kernel
theorem dX3_isOpen_27 : decode cX3_isOpen 27 = .ok (.istore_n 3, 1) := by decide +kernel
theorem dX3_isOpen_28 : decode cX3_isOpen 28 = .ok (.iload_n 3, 1) := by decide +kernel
theorem dX3_isOpen_29 : decode cX3_isOpen 29 = .ok (.ifCond .ne 33, 3) := by decide +kernel
theorem dX3_isOpen_32 : decode cX3_isOpen 32 = .ok (.aload_n 2, 1) := by decide +kernel
theorem dX3_isOpen_33 : decode cX3_isOpen 33 = .ok (.getfield 74, 3) := by decide +kernel
theorem dX3_isOpen_36 : decode cX3_isOpen 36 = .ok (.aload_n 0, 1) := by decide +kernel
theorem dX3_isOpen_37 : decode cX3_isOpen 37 = .ok (.getfield 18, 3) := by decide +kernel
theorem dX3_isOpen_40 : decode cX3_isOpen 40 = .ok (.iload_n 1, 1) := by decide +kernel
theorem dX3_isOpen_41 : decode cX3_isOpen 41 = .ok (.iaload, 1) := by decide +kernel
theorem dX3_isOpen_42 : decode cX3_isOpen 42 = .ok (.if_icmp .lt 20, 3) := by decide +kernel
theorem dX3_isOpen_45 : decode cX3_isOpen 45 = .ok (.aload_n 2, 1) := by decide +kernel
theorem dX3_isOpen_46 : decode cX3_isOpen 46 = .ok (.getfield 74, 3) := by decide +kernel
theorem dX3_isOpen_49 : decode cX3_isOpen 49 = .ok (.aload_n 0, 1) := by decide +kernel
theorem dX3_isOpen_50 : decode cX3_isOpen 50 = .ok (.getfield 21, 3) := by decide +kernel
theorem dX3_isOpen_53 : decode cX3_isOpen 53 = .ok (.iload_n 1, 1) := by decide +kernel
theorem dX3_isOpen_54 : decode cX3_isOpen 54 = .ok (.iaload, 1) := by decide +kernel
theorem dX3_isOpen_55 : decode cX3_isOpen 55 = .ok (.if_icmp .gt 7, 3) := by decide +kernel
theorem dX3_isOpen_58 : decode cX3_isOpen 58 = .ok (.iconst 1, 1) := by decide +kernel
theorem dX3_isOpen_59 : decode cX3_isOpen 59 = .ok (.goto 4, 3) := by decide +kernel
theorem dX3_isOpen_62 : decode cX3_isOpen 62 = .ok (.iconst 0, 1) := by decide +kernel
theorem dX3_isOpen_63 : decode cX3_isOpen 63 = .ok (.ireturn, 1) := by decide +kernel
theorem dX3_openWorth_0 : decode cX3_openWorth 0 = .ok (.iconst 0, 1) := by decide +kernel
theorem dX3_openWorth_1 : decode cX3_openWorth 1 = .ok (.istore_n 3, 1) := by decide +kernel
theorem dX3_openWorth_2 : decode cX3_openWorth 2 = .ok (.iconst 0, 1) := by decide +kernel
theorem dX3_openWorth_3 : decode cX3_openWorth 3 = .ok (.istore 4, 2) := by decide +kernel
theorem dX3_openWorth_5 : decode cX3_openWorth 5 = .ok (.iload 4, 2) := by decide +kernel
theorem dX3_openWorth_7 : decode cX3_openWorth 7 = .ok (.aload_n 0, 1) := by decide +kernel
theorem dX3_openWorth_8 : decode cX3_openWorth 8 = .ok (.getfield 33, 3) := by decide +kernel
theorem dX3_openWorth_11 : decode cX3_openWorth 11 = .ok (.if_icmp .ge 40, 3) := by decide +kernel
theorem dX3_openWorth_14 : decode cX3_openWorth 14 = .ok (.aload_n 0, 1) := by decide +kernel
theorem dX3_openWorth_15 : decode cX3_openWorth 15 = .ok (.getfield 15, 3) := by decide +kernel
theorem dX3_openWorth_18 : decode cX3_openWorth 18 = .ok (.iload 4, 2) := by decide +kernel
theorem dX3_openWorth_20 : decode cX3_openWorth 20 = .ok (.iaload, 1) := by decide +kernel
theorem dX3_openWorth_21 : decode cX3_openWorth 21 = .ok (.iload_n 1, 1) := by decide +kernel
theorem dX3_openWorth_22 : decode cX3_openWorth 22 = .ok (.if_icmp .ne 23, 3) := by decide +kernel
theorem dX3_openWorth_25 : decode cX3_openWorth 25 = .ok (.aload_n 0, 1) := by decide +kernel
theorem dX3_openWorth_26 : decode cX3_openWorth 26 = .ok (.iload 4, 2) := by decide +kernel
theorem dX3_openWorth_28 : decode cX3_openWorth 28 = .ok (.aload_n 2, 1) := by decide +kernel
theorem dX3_openWorth_29 : decode cX3_openWorth 29 = .ok (.invokevirtual 77, 3) := by decide +kernel
theorem dX3_openWorth_32 : decode cX3_openWorth 32 = .ok (.ifCond .eq 13, 3) := by decide +kernel
theorem dX3_openWorth_35 : decode cX3_openWorth 35 = .ok (.iload_n 3, 1) := by decide +kernel
theorem dX3_openWorth_36 : decode cX3_openWorth 36 = .ok (.aload_n 0, 1) := by decide +kernel
theorem dX3_openWorth_37 : decode cX3_openWorth 37 = .ok (.getfield 24, 3) := by decide +kernel
theorem dX3_openWorth_40 : decode cX3_openWorth 40 = .ok (.iload 4, 2) := by decide +kernel
theorem dX3_openWorth_42 : decode cX3_openWorth 42 = .ok (.iaload, 1) := by decide +kernel
theorem dX3_openWorth_43 : decode cX3_openWorth 43 = .ok (.iadd, 1) := by decide +kernel
theorem dX3_openWorth_44 : decode cX3_openWorth 44 = .ok (.istore_n 3, 1) := by decide +kernel
theorem dX3_openWorth_45 : decode cX3_openWorth 45 = .ok (.iinc 4 1, 3) := by decide +kernel
theorem dX3_openWorth_48 : decode cX3_openWorth 48 = .ok (.goto (-43), 3) := by decide +kernel
theorem dX3_openWorth_51 : decode cX3_openWorth 51 = .ok (.iload_n 3, 1) := by decide +kernel
theorem dX3_openWorth_52 : decode cX3_openWorth 52 = .ok (.ireturn, 1) := by decide +kernel
theorem dX3_take_0 : decode cX3_take 0 = .ok (.aload_n 1, 1) := by decide +kernel
theorem dX3_take_1 : decode cX3_take 1 = .ok (.getfield 9, 3) := by decide +kernel
theorem dX3_take_4 : decode cX3_take 4 = .ok (.iconst 0, 1) := by decide +kernel
theorem dX3_take_5 : decode cX3_take 5 = .ok (.aload_n 0, 1) := by decide +kernel
theorem dX3_take_6 : decode cX3_take 6 = .ok (.getfield 9, 3) := by decide +kernel
theorem dX3_take_9 : decode cX3_take 9 = .ok (.iconst 0, 1) := by decide +kernel
theorem dX3_take_10 : decode cX3_take 10 = .ok (.bipush 10, 2) := by decide +kernel
theorem dX3_take_12 : decode cX3_take 12 = .ok (.invokestatic 27, 3) := by decide +kernel
theorem dX3_take_15 : decode cX3_take 15 = .ok (.aload_n 1, 1) := by decide +kernel
theorem dX3_take_16 : decode cX3_take 16 = .ok (.getfield 15, 3) := by decide +kernel
theorem dX3_take_19 : decode cX3_take 19 = .ok (.iconst 0, 1) := by decide +kernel
theorem dX3_take_20 : decode cX3_take 20 = .ok (.aload_n 0, 1) := by decide +kernel
theorem dX3_take_21 : decode cX3_take 21 = .ok (.getfield 15, 3) := by decide +kernel
theorem dX3_take_24 : decode cX3_take 24 = .ok (.iconst 0, 1) := by decide +kernel
theorem dX3_take_25 : decode cX3_take 25 = .ok (.bipush 10, 2) := by decide +kernel
theorem dX3_take_27 : decode cX3_take 27 = .ok (.invokestatic 27, 3) := by decide +kernel
theorem dX3_take_30 : decode cX3_take 30 = .ok (.aload_n 1, 1) := by decide +kernel
theorem dX3_take_31 : decode cX3_take 31 = .ok (.getfield 18, 3) := by decide +kernel
theorem dX3_take_34 : decode cX3_take 34 = .ok (.iconst 0, 1) := by decide +kernel
theorem dX3_take_35 : decode cX3_take 35 = .ok (.aload_n 0, 1) := by decide +kernel
theorem dX3_take_36 : decode cX3_take 36 = .ok (.getfield 18, 3) := by decide +kernel
theorem dX3_take_39 : decode cX3_take 39 = .ok (.iconst 0, 1) := by decide +kernel
theorem dX3_take_40 : decode cX3_take 40 = .ok (.bipush 10, 2) := by decide +kernel
theorem dX3_take_42 : decode cX3_take 42 = .ok (.invokestatic 27, 3) := by decide +kernel
theorem dX3_take_45 : decode cX3_take 45 = .ok (.aload_n 1, 1) := by decide +kernel
theorem dX3_take_46 : decode cX3_take 46 = .ok (.getfield 21, 3) := by decide +kernel
theorem dX3_take_49 : decode cX3_take 49 = .ok (.iconst 0, 1) := by decide +kernel
theorem dX3_take_50 : decode cX3_take 50 = .ok (.aload_n 0, 1) := by decide +kernel
theorem dX3_take_51 : decode cX3_take 51 = .ok (.getfield 21, 3) := by decide +kernel
theorem dX3_take_54 : decode cX3_take 54 = .ok (.iconst 0, 1) := by decide +kernel
theorem dX3_take_55 : decode cX3_take 55 = .ok (.bipush 10, 2) := by decide +kernel
theorem dX3_take_57 : decode cX3_take 57 = .ok (.invokestatic 27, 3) := by decide +kernel
theorem dX3_take_60 : decode cX3_take 60 = .ok (.aload_n 1, 1) := by decide +kernel
theorem dX3_take_61 : decode cX3_take 61 = .ok (.getfield 24, 3) := by decide +kernel
theorem dX3_take_64 : decode cX3_take 64 = .ok (.iconst 0, 1) := by decide +kernel
theorem dX3_take_65 : decode cX3_take 65 = .ok (.aload_n 0, 1) := by decide +kernel
theorem dX3_take_66 : decode cX3_take 66 = .ok (.getfield 24, 3) := by decide +kernel
theorem dX3_take_69 : decode cX3_take 69 = .ok (.iconst 0, 1) := by decide +kernel
theorem dX3_take_70 : decode cX3_take 70 = .ok (.bipush 10, 2) := by decide +kernel
theorem dX3_take_72 : decode cX3_take 72 = .ok (.invokestatic 27, 3) := by decide +kernel
theorem dX3_take_75 : decode cX3_take 75 = .ok (.aload_n 0, 1) := by decide +kernel
theorem dX3_take_76 : decode cX3_take 76 = .ok (.aload_n 1, 1) := by decide +kernel
theorem dX3_take_77 : decode cX3_take 77 = .ok (.getfield 33, 3) := by decide +kernel
theorem dX3_take_80 : decode cX3_take 80 = .ok (.putfield 33, 3) := by decide +kernel
theorem dX3_take_83 : decode cX3_take 83 = .ok (.return_, 1) := by decide +kernel
theorem dX4_draw_0 : decode cX4_draw 0 = .ok (.aload_n 0, 1) := by decide +kernel
theorem dX4_draw_1 : decode cX4_draw 1 = .ok (.ldc 55, 2) := by decide +kernel
theorem dX4_draw_3 : decode cX4_draw 3 = .ok (.aload_n 0, 1) := by decide +kernel
theorem dX4_draw_4 : decode cX4_draw 4 = .ok (.getfield 46, 3) := by decide +kernel
theorem dX4_draw_7 : decode cX4_draw 7 = .ok (.imul, 1) := by decide +kernel
theorem dX4_draw_8 : decode cX4_draw 8 = .ok (.ldc 56, 2) := by decide +kernel
theorem dX4_draw_10 : decode cX4_draw 10 = .ok (.iadd, 1) := by decide +kernel
theorem dX4_draw_11 : decode cX4_draw 11 = .ok (.putfield 46, 3) := by decide +kernel
theorem dX4_draw_14 : decode cX4_draw 14 = .ok (.iload_n 1, 1) := by decide +kernel
theorem dX4_draw_15 : decode cX4_draw 15 = .ok (.ifCond .le 15, 3) := by decide +kernel
theorem dX4_draw_18 : decode cX4_draw 18 = .ok (.aload_n 0, 1) := by decide +kernel
theorem dX4_draw_19 : decode cX4_draw 19 = .ok (.getfield 46, 3) := by decide +kernel
theorem dX4_draw_22 : decode cX4_draw 22 = .ok (.bipush 8, 2) := by decide +kernel
theorem dX4_draw_24 : decode cX4_draw 24 = .ok (.iushr, 1) := by decide +kernel
theorem dX4_draw_25 : decode cX4_draw 25 = .ok (.iload_n 1, 1) := by decide +kernel
theorem dX4_draw_26 : decode cX4_draw 26 = .ok (.irem, 1) := by decide +kernel
theorem dX4_draw_27 : decode cX4_draw 27 = .ok (.goto 4, 3) := by decide +kernel
theorem dX4_draw_30 : decode cX4_draw 30 = .ok (.iconst 0, 1) := by decide +kernel
theorem dX4_draw_31 : decode cX4_draw 31 = .ok (.ireturn, 1) := by decide +kernel
theorem dX4_forgetNeeds_0 : decode cX4_forgetNeeds 0 = .ok (.iconst 0, 1) := by decide +kernel
theorem dX4_forgetNeeds_1 : decode cX4_forgetNeeds 1 = .ok (.istore_n 1, 1) := by decide +kernel
theorem dX4_forgetNeeds_2 : decode cX4_forgetNeeds 2 = .ok (.iload_n 1, 1) := by decide +kernel
theorem dX4_forgetNeeds_3 : decode cX4_forgetNeeds 3 = .ok (.bipush 10, 2) := by decide +kernel
theorem dX4_forgetNeeds_5 : decode cX4_forgetNeeds 5 = .ok (.if_icmp .ge 16, 3) := by decide +kernel
theorem dX4_forgetNeeds_8 : decode cX4_forgetNeeds 8 = .ok (.aload_n 0, 1) := by decide +kernel
theorem dX4_forgetNeeds_9 : decode cX4_forgetNeeds 9 = .ok (.getfield 24, 3) := by decide +kernel
theorem dX4_forgetNeeds_12 : decode cX4_forgetNeeds 12 = .ok (.iload_n 1, 1) := by decide +kernel
theorem dX4_forgetNeeds_13 : decode cX4_forgetNeeds 13 = .ok (.iconst (-1), 1) := by decide +kernel
theorem dX4_forgetNeeds_14 : decode cX4_forgetNeeds 14 = .ok (.iastore, 1) := by decide +kernel
theorem dX4_forgetNeeds_15 : decode cX4_forgetNeeds 15 = .ok (.iinc 1 1, 3) := by decide +kernel
theorem dX4_forgetNeeds_18 : decode cX4_forgetNeeds 18 = .ok (.goto (-16), 3) := by decide +kernel
theorem dX4_forgetNeeds_21 : decode cX4_forgetNeeds 21 = .ok (.aload_n 0, 1) := by decide +kernel
theorem dX4_forgetNeeds_22 : decode cX4_forgetNeeds 22 = .ok (.iconst 0, 1) := by decide +kernel
theorem dX4_forgetNeeds_23 : decode cX4_forgetNeeds 23 = .ok (.putfield 37, 3) := by decide +kernel
theorem dX4_forgetNeeds_26 : decode cX4_forgetNeeds 26 = .ok (.return_, 1) := by decide +kernel
theorem dX4_take_0 : decode cX4_take 0 = .ok (.aload_n 1, 1) := by decide +kernel
theorem dX4_take_1 : decode cX4_take 1 = .ok (.getfield 9, 3) := by decide +kernel
theorem dX4_take_4 : decode cX4_take 4 = .ok (.iconst 0, 1) := by decide +kernel
theorem dX4_take_5 : decode cX4_take 5 = .ok (.aload_n 0, 1) := by decide +kernel
theorem dX4_take_6 : decode cX4_take 6 = .ok (.getfield 9, 3) := by decide +kernel
theorem dX4_take_9 : decode cX4_take 9 = .ok (.iconst 0, 1) := by decide +kernel
theorem dX4_take_10 : decode cX4_take 10 = .ok (.bipush 10, 2) := by decide +kernel
theorem dX4_take_12 : decode cX4_take 12 = .ok (.invokestatic 31, 3) := by decide +kernel
theorem dX4_take_15 : decode cX4_take 15 = .ok (.aload_n 1, 1) := by decide +kernel
theorem dX4_take_16 : decode cX4_take 16 = .ok (.getfield 15, 3) := by decide +kernel
theorem dX4_take_19 : decode cX4_take 19 = .ok (.iconst 0, 1) := by decide +kernel
theorem dX4_take_20 : decode cX4_take 20 = .ok (.aload_n 0, 1) := by decide +kernel
theorem dX4_take_21 : decode cX4_take 21 = .ok (.getfield 15, 3) := by decide +kernel
theorem dX4_take_24 : decode cX4_take 24 = .ok (.iconst 0, 1) := by decide +kernel
theorem dX4_take_25 : decode cX4_take 25 = .ok (.bipush 10, 2) := by decide +kernel
theorem dX4_take_27 : decode cX4_take 27 = .ok (.invokestatic 31, 3) := by decide +kernel
theorem dX4_take_30 : decode cX4_take 30 = .ok (.aload_n 1, 1) := by decide +kernel
theorem dX4_take_31 : decode cX4_take 31 = .ok (.getfield 18, 3) := by decide +kernel
theorem dX4_take_34 : decode cX4_take 34 = .ok (.iconst 0, 1) := by decide +kernel
theorem dX4_take_35 : decode cX4_take 35 = .ok (.aload_n 0, 1) := by decide +kernel
theorem dX4_take_36 : decode cX4_take 36 = .ok (.getfield 18, 3) := by decide +kernel
theorem dX4_take_39 : decode cX4_take 39 = .ok (.iconst 0, 1) := by decide +kernel
theorem dX4_take_40 : decode cX4_take 40 = .ok (.bipush 10, 2) := by decide +kernel
theorem dX4_take_42 : decode cX4_take 42 = .ok (.invokestatic 31, 3) := by decide +kernel
theorem dX4_take_45 : decode cX4_take 45 = .ok (.aload_n 1, 1) := by decide +kernel
theorem dX4_take_46 : decode cX4_take 46 = .ok (.getfield 21, 3) := by decide +kernel
theorem dX4_take_49 : decode cX4_take 49 = .ok (.iconst 0, 1) := by decide +kernel
theorem dX4_take_50 : decode cX4_take 50 = .ok (.aload_n 0, 1) := by decide +kernel
theorem dX4_take_51 : decode cX4_take 51 = .ok (.getfield 21, 3) := by decide +kernel
theorem dX4_take_54 : decode cX4_take 54 = .ok (.iconst 0, 1) := by decide +kernel
theorem dX4_take_55 : decode cX4_take 55 = .ok (.bipush 10, 2) := by decide +kernel
theorem dX4_take_57 : decode cX4_take 57 = .ok (.invokestatic 31, 3) := by decide +kernel
theorem dX4_take_60 : decode cX4_take 60 = .ok (.aload_n 1, 1) := by decide +kernel
theorem dX4_take_61 : decode cX4_take 61 = .ok (.getfield 24, 3) := by decide +kernel
theorem dX4_take_64 : decode cX4_take 64 = .ok (.iconst 0, 1) := by decide +kernel
theorem dX4_take_65 : decode cX4_take 65 = .ok (.aload_n 0, 1) := by decide +kernel
theorem dX4_take_66 : decode cX4_take 66 = .ok (.getfield 24, 3) := by decide +kernel
theorem dX4_take_69 : decode cX4_take 69 = .ok (.iconst 0, 1) := by decide +kernel
theorem dX4_take_70 : decode cX4_take 70 = .ok (.bipush 10, 2) := by decide +kernel
theorem dX4_take_72 : decode cX4_take 72 = .ok (.invokestatic 31, 3) := by decide +kernel
theorem dX4_take_75 : decode cX4_take 75 = .ok (.aload_n 0, 1) := by decide +kernel
theorem dX4_take_76 : decode cX4_take 76 = .ok (.aload_n 1, 1) := by decide +kernel
theorem dX4_take_77 : decode cX4_take 77 = .ok (.getfield 37, 3) := by decide +kernel
theorem dX4_take_80 : decode cX4_take 80 = .ok (.putfield 37, 3) := by decide +kernel
theorem dX4_take_83 : decode cX4_take 83 = .ok (.aload_n 0, 1) := by decide +kernel
theorem dX4_take_84 : decode cX4_take 84 = .ok (.aload_n 1, 1) := by decide +kernel
theorem dX4_take_85 : decode cX4_take 85 = .ok (.getfield 27, 3) := by decide +kernel
theorem dX4_take_88 : decode cX4_take 88 = .ok (.putfield 27, 3) := by decide +kernel
theorem dX4_take_91 : decode cX4_take 91 = .ok (.aload_n 0, 1) := by decide +kernel
theorem dX4_take_92 : decode cX4_take 92 = .ok (.aload_n 1, 1) := by decide +kernel
theorem dX4_take_93 : decode cX4_take 93 = .ok (.getfield 40, 3) := by decide +kernel
theorem dX4_take_96 : decode cX4_take 96 = .ok (.putfield 40, 3) := by decide +kernel
theorem dX4_take_99 : decode cX4_take 99 = .ok (.aload_n 0, 1) := by decide +kernel
theorem dX4_take_100 : decode cX4_take 100 = .ok (.aload_n 1, 1) := by decide +kernel
theorem dX4_take_101 : decode cX4_take 101 = .ok (.getfield 43, 3) := by decide +kernel
theorem dX4_take_104 : decode cX4_take 104 = .ok (.putfield 43, 3) := by decide +kernel
theorem dX4_take_107 : decode cX4_take 107 = .ok (.aload_n 0, 1) := by decide +kernel
theorem dX4_take_108 : decode cX4_take 108 = .ok (.aload_n 1, 1) := by decide +kernel
theorem dX4_take_109 : decode cX4_take 109 = .ok (.getfield 46, 3) := by decide +kernel
theorem dX4_take_112 : decode cX4_take 112 = .ok (.putfield 46, 3) := by decide +kernel
theorem dX4_take_115 : decode cX4_take 115 = .ok (.aload_n 0, 1) := by decide +kernel
theorem dX4_take_116 : decode cX4_take 116 = .ok (.aload_n 1, 1) := by decide +kernel
theorem dX4_take_117 : decode cX4_take 117 = .ok (.getfield 49, 3) := by decide +kernel
theorem dX4_take_120 : decode cX4_take 120 = .ok (.putfield 49, 3) := by decide +kernel
theorem dX4_take_123 : decode cX4_take 123 = .ok (.aload_n 0, 1) := by decide +kernel
theorem dX4_take_124 : decode cX4_take 124 = .ok (.aload_n 1, 1) := by decide +kernel
theorem dX4_take_125 : decode cX4_take 125 = .ok (.getfield 52, 3) := by decide +kernel
theorem dX4_take_128 : decode cX4_take 128 = .ok (.putfield 52, 3) := by decide +kernel
theorem dX4_take_131 : decode cX4_take 131 = .ok (.return_, 1) := by decide +kernel
theorem dX4_waited_0 : decode cX4_waited 0 = .ok (.aload_n 0, 1) := by decide +kernel
theorem dX4_waited_1 : decode cX4_waited 1 = .ok (.getfield 40, 3) := by decide +kernel
theorem dX4_waited_4 : decode cX4_waited 4 = .ok (.aload_n 0, 1) := by decide +kernel
theorem dX4_waited_5 : decode cX4_waited 5 = .ok (.getfield 21, 3) := by decide +kernel
theorem dX4_waited_8 : decode cX4_waited 8 = .ok (.iload_n 1, 1) := by decide +kernel
theorem dX4_waited_9 : decode cX4_waited 9 = .ok (.iaload, 1) := by decide +kernel
theorem dX4_waited_10 : decode cX4_waited 10 = .ok (.isub, 1) := by decide +kernel
theorem dX4_waited_11 : decode cX4_waited 11 = .ok (.ireturn, 1) := by decide +kernel
theorem dX4_wasLitAhead_0 : decode cX4_wasLitAhead 0 = .ok (.aload_n 0, 1) := by decide +kernel
theorem dX4_wasLitAhead_1 : decode cX4_wasLitAhead 1 = .ok (.getfield 21, 3) := by decide +kernel
theorem dX4_wasLitAhead_4 : decode cX4_wasLitAhead 4 = .ok (.iload_n 1, 1) := by decide +kernel
theorem dX4_wasLitAhead_5 : decode cX4_wasLitAhead 5 = .ok (.iaload, 1) := by decide +kernel
theorem dX4_wasLitAhead_6 : decode cX4_wasLitAhead 6 = .ok (.iconst (-1), 1) := by decide +kernel
theorem dX4_wasLitAhead_7 : decode cX4_wasLitAhead 7 = .ok (.if_icmp .eq 22, 3) := by decide +kernel
theorem dX4_wasLitAhead_10 : decode cX4_wasLitAhead 10 = .ok (.aload_n 0, 1) := by decide +kernel
theorem dX4_wasLitAhead_11 : decode cX4_wasLitAhead 11 = .ok (.getfield 21, 3) := by decide +kernel
theorem dX4_wasLitAhead_14 : decode cX4_wasLitAhead 14 = .ok (.iload_n 1, 1) := by decide +kernel
theorem dX4_wasLitAhead_15 : decode cX4_wasLitAhead 15 = .ok (.iaload, 1) := by decide +kernel
theorem dX4_wasLitAhead_16 : decode cX4_wasLitAhead 16 = .ok (.aload_n 0, 1) := by decide +kernel
theorem dX4_wasLitAhead_17 : decode cX4_wasLitAhead 17 = .ok (.getfield 40, 3) := by decide +kernel
theorem dX4_wasLitAhead_20 : decode cX4_wasLitAhead 20 = .ok (.iconst 1, 1) := by decide +kernel
theorem dX4_wasLitAhead_21 : decode cX4_wasLitAhead 21 = .ok (.isub, 1) := by decide +kernel
theorem dX4_wasLitAhead_22 : decode cX4_wasLitAhead 22 = .ok (.if_icmp .ne 7, 3) := by decide +kernel
theorem dX4_wasLitAhead_25 : decode cX4_wasLitAhead 25 = .ok (.iconst 1, 1) := by decide +kernel
theorem dX4_wasLitAhead_26 : decode cX4_wasLitAhead 26 = .ok (.goto 4, 3) := by decide +kernel
theorem dX4_wasLitAhead_29 : decode cX4_wasLitAhead 29 = .ok (.iconst 0, 1) := by decide +kernel
theorem dX4_wasLitAhead_30 : decode cX4_wasLitAhead 30 = .ok (.ireturn, 1) := by decide +kernel
theorem q_1003 : Cond.methodLink RX4 31 arraycopyName ∈ GW := inG 1003 (by decide +kernel) (by decide +kernel)
theorem q_1044 : Cond.methodLink RX3 77 yX3_isOpen ∈ GW := inG 1044 (by decide +kernel) (by decide +kernel)
theorem q_1045 : Cond.instanceMethod yX3_isOpen ∈ GW := inG 1045 (by decide +kernel) (by decide +kernel)
theorem q_1046 : Cond.selects RX3 yX3_isOpen yX3_isOpen ∈ GW := inG 1046 (by decide +kernel) (by decide +kernel)
theorem q_1047 : Cond.code yX3_isOpen cX3_isOpen 4 (some .boolean) ∈ GW := inG 1047 (by decide +kernel) (by decide +kernel)
theorem q_1098 : Cond.constant RX4 55 (1664525) ∈ GW := inG 1098 (by decide +kernel) (by decide +kernel)
theorem q_1099 : Cond.constant RX4 56 (1013904223) ∈ GW := inG 1099 (by decide +kernel) (by decide +kernel)
theorem q_1387 : Cond.methodLink RX0 18 arraycopyName ∈ GW := inG 1387 (by decide +kernel) (by decide +kernel)
theorem q_156 : Cond.initialized RX3 ∈ GW := inG 156 (by decide +kernel) (by decide +kernel)
theorem q_169 : Cond.initialized "java/lang/System" ∈ GW := inG 169 (by decide +kernel) (by decide +kernel)
theorem q_191 : Cond.fieldLink RX4 9 "LampRound$Now" "oil" "[I" ∈ GW := inG 191 (by decide +kernel) (by decide +kernel)
theorem q_194 : Cond.fieldLink RX4 15 "LampRound$Now" "owed" "[I" ∈ GW := inG 194 (by decide +kernel) (by decide +kernel)
theorem q_197 : Cond.fieldLink RX4 18 "LampRound$Now" "had" "[I" ∈ GW := inG 197 (by decide +kernel) (by decide +kernel)
theorem q_200 : Cond.fieldLink RX4 21 "LampRound$Now" "last" "[I" ∈ GW := inG 200 (by decide +kernel) (by decide +kernel)
theorem q_203 : Cond.fieldLink RX4 24 "LampRound$Now" "done" "[I" ∈ GW := inG 203 (by decide +kernel) (by decide +kernel)
theorem q_205 : Cond.fieldLink RX3 66 "LampRound$Now" "done" "[I" ∈ GW := inG 205 (by decide +kernel) (by decide +kernel)
theorem q_208 : Cond.fieldLink RX4 37 "LampRound$Now" "spoilt" "I" ∈ GW := inG 208 (by decide +kernel) (by decide +kernel)
theorem q_210 : Cond.fieldLink RX3 71 "LampRound$Now" "spoilt" "I" ∈ GW := inG 210 (by decide +kernel) (by decide +kernel)
theorem q_213 : Cond.fieldLink RX4 27 "LampRound$Now" "lamp" "I" ∈ GW := inG 213 (by decide +kernel) (by decide +kernel)
theorem q_217 : Cond.fieldLink RX4 40 "LampRound$Now" "night" "I" ∈ GW := inG 217 (by decide +kernel) (by decide +kernel)
theorem q_219 : Cond.fieldLink RX3 74 "LampRound$Now" "night" "I" ∈ GW := inG 219 (by decide +kernel) (by decide +kernel)
theorem q_222 : Cond.fieldLink RX4 43 "LampRound$Now" "snow" "I" ∈ GW := inG 222 (by decide +kernel) (by decide +kernel)
theorem q_227 : Cond.fieldLink RX4 46 "LampRound$Now" "draws" "I" ∈ GW := inG 227 (by decide +kernel) (by decide +kernel)
theorem q_228 : Cond.fieldLink RX4 49 "LampRound$Now" "gone" "I" ∈ GW := inG 228 (by decide +kernel) (by decide +kernel)
theorem q_231 : Cond.fieldLink RX4 52 "LampRound$Now" "lines" "I" ∈ GW := inG 231 (by decide +kernel) (by decide +kernel)
theorem q_343 : Cond.fieldLink RX3 9 "LampRound$Needs" "kind" "[I" ∈ GW := inG 343 (by decide +kernel) (by decide +kernel)
theorem q_347 : Cond.fieldLink RX3 15 "LampRound$Needs" "at" "[I" ∈ GW := inG 347 (by decide +kernel) (by decide +kernel)
theorem q_351 : Cond.fieldLink RX3 18 "LampRound$Needs" "from" "[I" ∈ GW := inG 351 (by decide +kernel) (by decide +kernel)
theorem q_354 : Cond.fieldLink RX3 21 "LampRound$Needs" "to" "[I" ∈ GW := inG 354 (by decide +kernel) (by decide +kernel)
theorem q_358 : Cond.fieldLink RX3 24 "LampRound$Needs" "worth" "[I" ∈ GW := inG 358 (by decide +kernel) (by decide +kernel)
theorem q_361 : Cond.fieldLink RX3 33 "LampRound$Needs" "count" "I" ∈ GW := inG 361 (by decide +kernel) (by decide +kernel)
theorem q_444 : Cond.fieldLink RX0 9 "LampRound$Clues" "night" "[I" ∈ GW := inG 444 (by decide +kernel) (by decide +kernel)
theorem q_446 : Cond.fieldLink RX0 15 "LampRound$Clues" "set" "[I" ∈ GW := inG 446 (by decide +kernel) (by decide +kernel)
theorem q_448 : Cond.fieldLink RX0 24 "LampRound$Clues" "count" "I" ∈ GW := inG 448 (by decide +kernel) (by decide +kernel)
theorem q_966 : Cond.static arraycopyName ∈ GW := inG 966 (by decide +kernel) (by decide +kernel)
theorem q_967 : Cond.native arraycopyName ∈ GW := inG 967 (by decide +kernel) (by decide +kernel)
theorem q_977 : Cond.methodLink RX3 27 arraycopyName ∈ GW := inG 977 (by decide +kernel) (by decide +kernel)
theorem hdV_X3_isOpen : yX3_isOpen.cls = RX3 ∧ yX3_isOpen.cls ≠ "java/lang/invoke/MethodHandle" ∧ yX3_isOpen.cls ≠ "java/lang/invoke/VarHandle" ∧ (parseMethodDescriptor yX3_isOpen.desc).map (fun d => d.parameters.length) = some 2 := by decide +kernel
