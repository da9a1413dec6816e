theorem dX8_append_0 : decode cX8_append 0 = .ok (.bipush 24, 2) := by decide +kernel
theorem dX8_append_2 : decode cX8_append 2 = .ok (.istore_n 2, 1) := by decide +kernel
theorem dX8_append_3 : decode cX8_append 3 = .ok (.iload_n 2, 1) := by decide +kernel
theorem dX8_append_4 : decode cX8_append 4 = .ok (.ifCond .lt 45, 3) := by decide +kernel
theorem dX8_append_7 : decode cX8_append 7 = .ok (.aload_n 0, 1) := by decide +kernel
theorem dX8_append_8 : decode cX8_append 8 = .ok (.getfield 25, 3) := by decide +kernel
theorem dX8_append_11 : decode cX8_append 11 = .ok (.sipush 400, 3) := by decide +kernel
theorem dX8_append_14 : decode cX8_append 14 = .ok (.if_icmp .ge 29, 3) := by decide +kernel
theorem dX8_append_17 : decode cX8_append 17 = .ok (.aload_n 0, 1) := by decide +kernel
theorem dX8_append_18 : decode cX8_append 18 = .ok (.getfield 9, 3) := by decide +kernel
theorem dX8_append_21 : decode cX8_append 21 = .ok (.aload_n 0, 1) := by decide +kernel
theorem dX8_append_22 : decode cX8_append 22 = .ok (.getfield 25, 3) := by decide +kernel
theorem dX8_append_25 : decode cX8_append 25 = .ok (.iload_n 1, 1) := by decide +kernel
theorem dX8_append_26 : decode cX8_append 26 = .ok (.iload_n 2, 1) := by decide +kernel
theorem dX8_append_27 : decode cX8_append 27 = .ok (.iushr, 1) := by decide +kernel
theorem dX8_append_28 : decode cX8_append 28 = .ok (.sipush 255, 3) := by decide +kernel
theorem dX8_append_31 : decode cX8_append 31 = .ok (.iand, 1) := by decide +kernel
theorem dX8_append_32 : decode cX8_append 32 = .ok (.iastore, 1) := by decide +kernel
theorem dX8_append_33 : decode cX8_append 33 = .ok (.aload_n 0, 1) := by decide +kernel
theorem dX8_append_34 : decode cX8_append 34 = .ok (.dup, 1) := by decide +kernel
theorem dX8_append_35 : decode cX8_append 35 = .ok (.getfield 25, 3) := by decide +kernel
theorem dX8_append_38 : decode cX8_append 38 = .ok (.iconst 1, 1) := by decide +kernel
theorem dX8_append_39 : decode cX8_append 39 = .ok (.iadd, 1) := by decide +kernel
theorem dX8_append_40 : decode cX8_append 40 = .ok (.putfield 25, 3) := by decide +kernel
theorem dX8_append_43 : decode cX8_append 43 = .ok (.iinc 2 (-8), 3) := by decide +kernel
theorem dX8_append_46 : decode cX8_append 46 = .ok (.goto (-43), 3) := by decide +kernel
theorem dX8_append_49 : decode cX8_append 49 = .ok (.return_, 1) := by decide +kernel
theorem dX8_goesOn_0 : decode cX8_goesOn 0 = .ok (.aload_n 0, 1) := by decide +kernel
theorem dX8_goesOn_1 : decode cX8_goesOn 1 = .ok (.getfield 32, 3) := by decide +kernel
theorem dX8_goesOn_4 : decode cX8_goesOn 4 = .ok (.ifCond .ne 14, 3) := by decide +kernel
theorem dX8_goesOn_7 : decode cX8_goesOn 7 = .ok (.aload_n 0, 1) := by decide +kernel
theorem dX8_goesOn_8 : decode cX8_goesOn 8 = .ok (.getfield 51, 3) := by decide +kernel
theorem dX8_goesOn_11 : decode cX8_goesOn 11 = .ok (.ifCond .eq 7, 3) := by decide +kernel
theorem dX8_goesOn_14 : decode cX8_goesOn 14 = .ok (.iconst 1, 1) := by decide +kernel
theorem dX8_goesOn_15 : decode cX8_goesOn 15 = .ok (.goto 4, 3) := by decide +kernel
theorem dX8_goesOn_18 : decode cX8_goesOn 18 = .ok (.iconst 0, 1) := by decide +kernel
theorem dX8_goesOn_19 : decode cX8_goesOn 19 = .ok (.ireturn, 1) := by decide +kernel
theorem dX8_isDigit_0 : decode cX8_isDigit 0 = .ok (.iload_n 0, 1) := by decide +kernel
theorem dX8_isDigit_1 : decode cX8_isDigit 1 = .ok (.bipush 48, 2) := by decide +kernel
theorem dX8_isDigit_3 : decode cX8_isDigit 3 = .ok (.if_icmp .lt 13, 3) := by decide +kernel
theorem dX8_isDigit_6 : decode cX8_isDigit 6 = .ok (.iload_n 0, 1) := by decide +kernel
theorem dX8_isDigit_7 : decode cX8_isDigit 7 = .ok (.bipush 57, 2) := by decide +kernel
theorem dX8_isDigit_9 : decode cX8_isDigit 9 = .ok (.if_icmp .gt 7, 3) := by decide +kernel
theorem dX8_isDigit_12 : decode cX8_isDigit 12 = .ok (.iconst 1, 1) := by decide +kernel
theorem dX8_isDigit_13 : decode cX8_isDigit 13 = .ok (.goto 4, 3) := by decide +kernel
theorem dX8_isDigit_16 : decode cX8_isDigit 16 = .ok (.iconst 0, 1) := by decide +kernel
theorem dX8_isDigit_17 : decode cX8_isDigit 17 = .ok (.ireturn, 1) := by decide +kernel
theorem dX8_isLetter_0 : decode cX8_isLetter 0 = .ok (.iload_n 0, 1) := by decide +kernel
theorem dX8_isLetter_1 : decode cX8_isLetter 1 = .ok (.bipush 97, 2) := by decide +kernel
theorem dX8_isLetter_3 : decode cX8_isLetter 3 = .ok (.if_icmp .lt 9, 3) := by decide +kernel
theorem dX8_isLetter_6 : decode cX8_isLetter 6 = .ok (.iload_n 0, 1) := by decide +kernel
theorem dX8_isLetter_7 : decode cX8_isLetter 7 = .ok (.bipush 122, 2) := by decide +kernel
theorem dX8_isLetter_9 : decode cX8_isLetter 9 = .ok (.if_icmp .le 15, 3) := by decide +kernel
theorem dX8_isLetter_12 : decode cX8_isLetter 12 = .ok (.iload_n 0, 1) := by decide +kernel
theorem dX8_isLetter_13 : decode cX8_isLetter 13 = .ok (.bipush 65, 2) := by decide +kernel
theorem dX8_isLetter_15 : decode cX8_isLetter 15 = .ok (.if_icmp .lt 13, 3) := by decide +kernel
theorem dX8_isLetter_18 : decode cX8_isLetter 18 = .ok (.iload_n 0, 1) := by decide +kernel
theorem dX8_isLetter_19 : decode cX8_isLetter 19 = .ok (.bipush 90, 2) := by decide +kernel
theorem dX8_isLetter_21 : decode cX8_isLetter 21 = .ok (.if_icmp .gt 7, 3) := by decide +kernel
theorem dX8_isLetter_24 : decode cX8_isLetter 24 = .ok (.iconst 1, 1) := by decide +kernel
theorem dX8_isLetter_25 : decode cX8_isLetter 25 = .ok (.goto 4, 3) := by decide +kernel
theorem dX8_isLetter_28 : decode cX8_isLetter 28 = .ok (.iconst 0, 1) := by decide +kernel
theorem dX8_isLetter_29 : decode cX8_isLetter 29 = .ok (.ireturn, 1) := by decide +kernel
theorem dX8_readNumber_0 : decode cX8_readNumber 0 = .ok (.aload_n 0, 1) := by decide +kernel
theorem dX8_readNumber_1 : decode cX8_readNumber 1 = .ok (.iconst 0, 1) := by decide +kernel
theorem dX8_readNumber_2 : decode cX8_readNumber 2 = .ok (.putfield 79, 3) := by decide +kernel
theorem dX8_readNumber_5 : decode cX8_readNumber 5 = .ok (.aload_n 0, 1) := by decide +kernel
theorem dX8_readNumber_6 : decode cX8_readNumber 6 = .ok (.getfield 35, 3) := by decide +kernel
theorem dX8_readNumber_9 : decode cX8_readNumber 9 = .ok (.aload_n 0, 1) := by decide +kernel
theorem dX8_readNumber_10 : decode cX8_readNumber 10 = .ok (.getfield 25, 3) := by decide +kernel
theorem dX8_readNumber_13 : decode cX8_readNumber 13 = .ok (.if_icmp .ge 68, 3) := by decide +kernel
theorem dX8_readNumber_16 : decode cX8_readNumber 16 = .ok (.aload_n 0, 1) := by decide +kernel
theorem dX8_readNumber_17 : decode cX8_readNumber 17 = .ok (.getfield 9, 3) := by decide +kernel
theorem dX8_readNumber_20 : decode cX8_readNumber 20 = .ok (.aload_n 0, 1) := by decide +kernel
theorem dX8_readNumber_21 : decode cX8_readNumber 21 = .ok (.getfield 35, 3) := by decide +kernel
theorem dX8_readNumber_24 : decode cX8_readNumber 24 = .ok (.iaload, 1) := by decide +kernel
theorem dX8_readNumber_25 : decode cX8_readNumber 25 = .ok (.invokestatic 65, 3) := by decide +kernel
theorem dX8_readNumber_28 : decode cX8_readNumber 28 = .ok (.ifCond .eq 53, 3) := by decide +kernel
theorem dX8_readNumber_31 : decode cX8_readNumber 31 = .ok (.aload_n 0, 1) := by decide +kernel
theorem dX8_readNumber_32 : decode cX8_readNumber 32 = .ok (.getfield 35, 3) := by decide +kernel
theorem dX8_readNumber_35 : decode cX8_readNumber 35 = .ok (.aload_n 0, 1) := by decide +kernel
theorem dX8_readNumber_36 : decode cX8_readNumber 36 = .ok (.getfield 54, 3) := by decide +kernel
theorem dX8_readNumber_39 : decode cX8_readNumber 39 = .ok (.isub, 1) := by decide +kernel
theorem dX8_readNumber_40 : decode cX8_readNumber 40 = .ok (.iconst 4, 1) := by decide +kernel
theorem dX8_readNumber_41 : decode cX8_readNumber 41 = .ok (.if_icmp .ge 27, 3) := by decide +kernel
theorem dX8_readNumber_44 : decode cX8_readNumber 44 = .ok (.aload_n 0, 1) := by decide +kernel
theorem dX8_readNumber_45 : decode cX8_readNumber 45 = .ok (.bipush 10, 2) := by decide +kernel
theorem dX8_readNumber_47 : decode cX8_readNumber 47 = .ok (.aload_n 0, 1) := by decide +kernel
theorem dX8_readNumber_48 : decode cX8_readNumber 48 = .ok (.getfield 79, 3) := by decide +kernel
theorem dX8_readNumber_51 : decode cX8_readNumber 51 = .ok (.imul, 1) := by decide +kernel
theorem dX8_readNumber_52 : decode cX8_readNumber 52 = .ok (.aload_n 0, 1) := by decide +kernel
theorem dX8_readNumber_53 : decode cX8_readNumber 53 = .ok (.getfield 9, 3) := by decide +kernel
theorem dX8_readNumber_56 : decode cX8_readNumber 56 = .ok (.aload_n 0, 1) := by decide +kernel
theorem dX8_readNumber_57 : decode cX8_readNumber 57 = .ok (.getfield 35, 3) := by decide +kernel
theorem dX8_readNumber_60 : decode cX8_readNumber 60 = .ok (.iaload, 1) := by decide +kernel
theorem dX8_readNumber_61 : decode cX8_readNumber 61 = .ok (.iadd, 1) := by decide +kernel
theorem dX8_readNumber_62 : decode cX8_readNumber 62 = .ok (.bipush 48, 2) := by decide +kernel
theorem dX8_readNumber_64 : decode cX8_readNumber 64 = .ok (.isub, 1) := by decide +kernel
theorem dX8_readNumber_65 : decode cX8_readNumber 65 = .ok (.putfield 79, 3) := by decide +kernel
theorem dX8_readNumber_68 : decode cX8_readNumber 68 = .ok (.aload_n 0, 1) := by decide +kernel
theorem dX8_readNumber_69 : decode cX8_readNumber 69 = .ok (.dup, 1) := by decide +kernel
theorem dX8_readNumber_70 : decode cX8_readNumber 70 = .ok (.getfield 35, 3) := by decide +kernel
theorem dX8_readNumber_73 : decode cX8_readNumber 73 = .ok (.iconst 1, 1) := by decide +kernel
theorem dX8_readNumber_74 : decode cX8_readNumber 74 = .ok (.iadd, 1) := by decide +kernel
theorem dX8_readNumber_75 : decode cX8_readNumber 75 = .ok (.putfield 35, 3) := by decide +kernel
theorem dX8_readNumber_78 : decode cX8_readNumber 78 = .ok (.goto (-73), 3) := by decide +kernel
theorem dX8_readNumber_81 : decode cX8_readNumber 81 = .ok (.aload_n 0, 1) := by decide +kernel
theorem dX8_readNumber_82 : decode cX8_readNumber 82 = .ok (.aload_n 0, 1) := by decide +kernel
theorem dX8_readNumber_83 : decode cX8_readNumber 83 = .ok (.getfield 35, 3) := by decide +kernel
theorem dX8_readNumber_86 : decode cX8_readNumber 86 = .ok (.aload_n 0, 1) := by decide +kernel
theorem dX8_readNumber_87 : decode cX8_readNumber 87 = .ok (.getfield 54, 3) := by decide +kernel
theorem dX8_readNumber_90 : decode cX8_readNumber 90 = .ok (.isub, 1) := by decide +kernel
theorem dX8_readNumber_91 : decode cX8_readNumber 91 = .ok (.iconst 4, 1) := by decide +kernel
theorem dX8_readNumber_92 : decode cX8_readNumber 92 = .ok (.if_icmp .gt 7, 3) := by decide +kernel
theorem dX8_readNumber_95 : decode cX8_readNumber 95 = .ok (.iconst 1, 1) := by decide +kernel
theorem dX8_readNumber_96 : decode cX8_readNumber 96 = .ok (.goto 4, 3) := by decide +kernel
theorem dX8_readNumber_99 : decode cX8_readNumber 99 = .ok (.iconst 2, 1) := by decide +kernel
theorem dX8_readNumber_100 : decode cX8_readNumber 100 = .ok (.putfield 51, 3) := by decide +kernel
theorem dX8_readNumber_103 : decode cX8_readNumber 103 = .ok (.return_, 1) := by decide +kernel
theorem dX8_refuse_0 : decode cX8_refuse 0 = .ok (.aload_n 0, 1) := by decide +kernel
theorem dX8_refuse_1 : decode cX8_refuse 1 = .ok (.getfield 32, 3) := by decide +kernel
theorem dX8_refuse_4 : decode cX8_refuse 4 = .ok (.ifCond .ne 16, 3) := by decide +kernel
theorem dX8_refuse_7 : decode cX8_refuse 7 = .ok (.aload_n 0, 1) := by decide +kernel
theorem dX8_refuse_8 : decode cX8_refuse 8 = .ok (.iload_n 1, 1) := by decide +kernel
theorem dX8_refuse_9 : decode cX8_refuse 9 = .ok (.putfield 32, 3) := by decide +kernel
theorem dX8_refuse_12 : decode cX8_refuse 12 = .ok (.aload_n 0, 1) := by decide +kernel
theorem dX8_refuse_13 : decode cX8_refuse 13 = .ok (.aload_n 0, 1) := by decide +kernel
theorem dX8_refuse_14 : decode cX8_refuse 14 = .ok (.getfield 54, 3) := by decide +kernel
theorem dX8_refuse_17 : decode cX8_refuse 17 = .ok (.putfield 21, 3) := by decide +kernel
theorem dX8_refuse_20 : decode cX8_refuse 20 = .ok (.return_, 1) := by decide +kernel
theorem q_160 : Cond.initialized RX8 ∈ GW := inG 160 (by decide +kernel) (by decide +kernel)
theorem q_537 : Cond.fieldLink RX8 9 "LampRound$Tape" "signs" "[I" ∈ GW := inG 537 (by decide +kernel) (by decide +kernel)
theorem q_538 : Cond.fieldLink RX8 25 "LampRound$Tape" "size" "I" ∈ GW := inG 538 (by decide +kernel) (by decide +kernel)
theorem q_541 : Cond.fieldLink RX8 35 "LampRound$Tape" "at" "I" ∈ GW := inG 541 (by decide +kernel) (by decide +kernel)
theorem q_546 : Cond.fieldLink RX8 51 "LampRound$Tape" "kind" "I" ∈ GW := inG 546 (by decide +kernel) (by decide +kernel)
theorem q_548 : Cond.fieldLink RX8 79 "LampRound$Tape" "value" "I" ∈ GW := inG 548 (by decide +kernel) (by decide +kernel)
theorem q_549 : Cond.fieldLink RX8 54 "LampRound$Tape" "place" "I" ∈ GW := inG 549 (by decide +kernel) (by decide +kernel)
theorem q_550 : Cond.fieldLink RX8 32 "LampRound$Tape" "fault" "I" ∈ GW := inG 550 (by decide +kernel) (by decide +kernel)
theorem q_556 : Cond.fieldLink RX8 21 "LampRound$Tape" "faultPlace" "I" ∈ GW := inG 556 (by decide +kernel) (by decide +kernel)
theorem q_781 : Cond.methodLink RX8 65 yX8_isDigit ∈ GW := inG 781 (by decide +kernel) (by decide +kernel)
theorem q_782 : Cond.static yX8_isDigit ∈ GW := inG 782 (by decide +kernel) (by decide +kernel)
theorem q_783 : Cond.code yX8_isDigit cX8_isDigit 1 (some .boolean) ∈ GW := inG 783 (by decide +kernel) (by decide +kernel)
theorem hdV_X8_isDigit : yX8_isDigit.cls = RX8 ∧ yX8_isDigit.cls ≠ "java/lang/invoke/MethodHandle" ∧ yX8_isDigit.cls ≠ "java/lang/invoke/VarHandle" ∧ (parseMethodDescriptor yX8_isDigit.desc).map (fun d => d.parameters.length) = some 1 := by decide +kernel
