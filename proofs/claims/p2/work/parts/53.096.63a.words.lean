theorem dX7_add_0 : decode cX7_add 0 = .ok (.aload_n 0, 1) := by decide +kernel
theorem dX7_add_1 : decode cX7_add 1 = .ok (.getfield 27, 3) := by decide +kernel
theorem dX7_add_4 : decode cX7_add 4 = .ok (.istore_n 3, 1) := by decide +kernel
theorem dX7_add_5 : decode cX7_add 5 = .ok (.iload_n 3, 1) := by decide +kernel
theorem dX7_add_6 : decode cX7_add 6 = .ok (.aload_n 0, 1) := by decide +kernel
theorem dX7_add_7 : decode cX7_add 7 = .ok (.getfield 27, 3) := by decide +kernel
theorem dX7_add_10 : decode cX7_add 10 = .ok (.iload_n 2, 1) := by decide +kernel
theorem dX7_add_11 : decode cX7_add 11 = .ok (.iadd, 1) := by decide +kernel
theorem dX7_add_12 : decode cX7_add 12 = .ok (.if_icmp .ge 23, 3) := by decide +kernel
theorem dX7_add_15 : decode cX7_add 15 = .ok (.iload_n 3, 1) := by decide +kernel
theorem dX7_add_16 : decode cX7_add 16 = .ok (.sipush 200, 3) := by decide +kernel
theorem dX7_add_19 : decode cX7_add 19 = .ok (.if_icmp .ge 16, 3) := by decide +kernel
theorem dX7_add_22 : decode cX7_add 22 = .ok (.aload_n 0, 1) := by decide +kernel
theorem dX7_add_23 : decode cX7_add 23 = .ok (.getfield 9, 3) := by decide +kernel
theorem dX7_add_26 : decode cX7_add 26 = .ok (.iload_n 3, 1) := by decide +kernel
theorem dX7_add_27 : decode cX7_add 27 = .ok (.iload_n 1, 1) := by decide +kernel
theorem dX7_add_28 : decode cX7_add 28 = .ok (.iastore, 1) := by decide +kernel
theorem dX7_add_29 : decode cX7_add 29 = .ok (.iinc 3 1, 3) := by decide +kernel
theorem dX7_add_32 : decode cX7_add 32 = .ok (.goto (-27), 3) := by decide +kernel
theorem dX7_add_35 : decode cX7_add 35 = .ok (.aload_n 0, 1) := by decide +kernel
theorem dX7_add_36 : decode cX7_add 36 = .ok (.dup, 1) := by decide +kernel
theorem dX7_add_37 : decode cX7_add 37 = .ok (.getfield 27, 3) := by decide +kernel
theorem dX7_add_40 : decode cX7_add 40 = .ok (.iload_n 2, 1) := by decide +kernel
theorem dX7_add_41 : decode cX7_add 41 = .ok (.iadd, 1) := by decide +kernel
theorem dX7_add_42 : decode cX7_add 42 = .ok (.putfield 27, 3) := by decide +kernel
theorem dX7_add_45 : decode cX7_add 45 = .ok (.return_, 1) := by decide +kernel
theorem dX7_repeat_0 : decode cX7_repeat 0 = .ok (.aload_n 0, 1) := by decide +kernel
theorem dX7_repeat_1 : decode cX7_repeat 1 = .ok (.getfield 31, 3) := by decide +kernel
theorem dX7_repeat_4 : decode cX7_repeat 4 = .ok (.ifCond .gt 4, 3) := by decide +kernel
theorem dX7_repeat_8 : decode cX7_repeat 8 = .ok (.aload_n 0, 1) := by decide +kernel
theorem dX7_repeat_9 : decode cX7_repeat 9 = .ok (.dup, 1) := by decide +kernel
theorem dX7_repeat_10 : decode cX7_repeat 10 = .ok (.getfield 31, 3) := by decide +kernel
theorem dX7_repeat_13 : decode cX7_repeat 13 = .ok (.iconst 1, 1) := by decide +kernel
theorem dX7_repeat_14 : decode cX7_repeat 14 = .ok (.isub, 1) := by decide +kernel
theorem dX7_repeat_15 : decode cX7_repeat 15 = .ok (.putfield 31, 3) := by decide +kernel
theorem dX7_repeat_18 : decode cX7_repeat 18 = .ok (.aload_n 0, 1) := by decide +kernel
theorem dX7_repeat_19 : decode cX7_repeat 19 = .ok (.getfield 27, 3) := by decide +kernel
theorem dX7_repeat_22 : decode cX7_repeat 22 = .ok (.aload_n 0, 1) := by decide +kernel
theorem dX7_repeat_23 : decode cX7_repeat 23 = .ok (.getfield 15, 3) := by decide +kernel
theorem dX7_repeat_26 : decode cX7_repeat 26 = .ok (.aload_n 0, 1) := by decide +kernel
theorem dX7_repeat_27 : decode cX7_repeat 27 = .ok (.getfield 31, 3) := by decide +kernel
theorem dX7_repeat_30 : decode cX7_repeat 30 = .ok (.iaload, 1) := by decide +kernel
theorem dX7_repeat_31 : decode cX7_repeat 31 = .ok (.isub, 1) := by decide +kernel
theorem dX7_repeat_32 : decode cX7_repeat 32 = .ok (.istore_n 1, 1) := by decide +kernel
theorem dX7_repeat_33 : decode cX7_repeat 33 = .ok (.aload_n 0, 1) := by decide +kernel
theorem dX7_repeat_34 : decode cX7_repeat 34 = .ok (.getfield 15, 3) := by decide +kernel
theorem dX7_repeat_37 : decode cX7_repeat 37 = .ok (.aload_n 0, 1) := by decide +kernel
theorem dX7_repeat_38 : decode cX7_repeat 38 = .ok (.getfield 31, 3) := by decide +kernel
theorem dX7_repeat_41 : decode cX7_repeat 41 = .ok (.iaload, 1) := by decide +kernel
theorem dX7_repeat_42 : decode cX7_repeat 42 = .ok (.iload_n 1, 1) := by decide +kernel
theorem dX7_repeat_43 : decode cX7_repeat 43 = .ok (.aload_n 0, 1) := by decide +kernel
theorem dX7_repeat_44 : decode cX7_repeat 44 = .ok (.getfield 18, 3) := by decide +kernel
theorem dX7_repeat_47 : decode cX7_repeat 47 = .ok (.aload_n 0, 1) := by decide +kernel
theorem dX7_repeat_48 : decode cX7_repeat 48 = .ok (.getfield 31, 3) := by decide +kernel
theorem dX7_repeat_51 : decode cX7_repeat 51 = .ok (.iaload, 1) := by decide +kernel
theorem dX7_repeat_52 : decode cX7_repeat 52 = .ok (.imul, 1) := by decide +kernel
theorem dX7_repeat_53 : decode cX7_repeat 53 = .ok (.iadd, 1) := by decide +kernel
theorem dX7_repeat_54 : decode cX7_repeat 54 = .ok (.istore_n 2, 1) := by decide +kernel
theorem dX7_repeat_55 : decode cX7_repeat 55 = .ok (.aload_n 0, 1) := by decide +kernel
theorem dX7_repeat_56 : decode cX7_repeat 56 = .ok (.getfield 27, 3) := by decide +kernel
theorem dX7_repeat_59 : decode cX7_repeat 59 = .ok (.istore_n 3, 1) := by decide +kernel
theorem dX7_repeat_60 : decode cX7_repeat 60 = .ok (.iload_n 3, 1) := by decide +kernel
theorem dX7_repeat_61 : decode cX7_repeat 61 = .ok (.iload_n 2, 1) := by decide +kernel
theorem dX7_repeat_62 : decode cX7_repeat 62 = .ok (.if_icmp .ge 30, 3) := by decide +kernel
theorem dX7_repeat_65 : decode cX7_repeat 65 = .ok (.iload_n 3, 1) := by decide +kernel
theorem dX7_repeat_66 : decode cX7_repeat 66 = .ok (.sipush 200, 3) := by decide +kernel
theorem dX7_repeat_69 : decode cX7_repeat 69 = .ok (.if_icmp .ge 23, 3) := by decide +kernel
theorem dX7_repeat_72 : decode cX7_repeat 72 = .ok (.aload_n 0, 1) := by decide +kernel
theorem dX7_repeat_73 : decode cX7_repeat 73 = .ok (.getfield 9, 3) := by decide +kernel
theorem dX7_repeat_76 : decode cX7_repeat 76 = .ok (.iload_n 3, 1) := by decide +kernel
theorem dX7_repeat_77 : decode cX7_repeat 77 = .ok (.aload_n 0, 1) := by decide +kernel
theorem dX7_repeat_78 : decode cX7_repeat 78 = .ok (.getfield 9, 3) := by decide +kernel
theorem dX7_repeat_81 : decode cX7_repeat 81 = .ok (.iload_n 3, 1) := by decide +kernel
theorem dX7_repeat_82 : decode cX7_repeat 82 = .ok (.iload_n 1, 1) := by decide +kernel
theorem dX7_repeat_83 : decode cX7_repeat 83 = .ok (.isub, 1) := by decide +kernel
theorem dX7_repeat_84 : decode cX7_repeat 84 = .ok (.iaload, 1) := by decide +kernel
theorem dX7_repeat_85 : decode cX7_repeat 85 = .ok (.iastore, 1) := by decide +kernel
theorem dX7_repeat_86 : decode cX7_repeat 86 = .ok (.iinc 3 1, 3) := by decide +kernel
theorem dX7_repeat_89 : decode cX7_repeat 89 = .ok (.goto (-29), 3) := by decide +kernel
theorem dX7_repeat_92 : decode cX7_repeat 92 = .ok (.aload_n 0, 1) := by decide +kernel
theorem dX7_repeat_93 : decode cX7_repeat 93 = .ok (.iload_n 2, 1) := by decide +kernel
theorem dX7_repeat_94 : decode cX7_repeat 94 = .ok (.putfield 27, 3) := by decide +kernel
theorem dX7_repeat_97 : decode cX7_repeat 97 = .ok (.return_, 1) := by decide +kernel
theorem q_424 : Cond.fieldLink RX7 15 "LampRound$Round" "starts" "[I" ∈ GW := inG 424 (by decide +kernel) (by decide +kernel)
theorem q_425 : Cond.fieldLink RX7 18 "LampRound$Round" "times" "[I" ∈ GW := inG 425 (by decide +kernel) (by decide +kernel)
theorem q_426 : Cond.fieldLink RX7 31 "LampRound$Round" "open" "I" ∈ GW := inG 426 (by decide +kernel) (by decide +kernel)
