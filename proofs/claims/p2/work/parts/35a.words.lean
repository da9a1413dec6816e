theorem dX12_laysRound_0 : decode cX12_laysRound 0 = .ok (.iconst 0, 1) := by decide +kernel
theorem dX12_laysRound_1 : decode cX12_laysRound 1 = .ok (.istore_n 1, 1) := by decide +kernel
theorem dX12_laysRound_2 : decode cX12_laysRound 2 = .ok (.iconst 0, 1) := by decide +kernel
theorem dX12_laysRound_3 : decode cX12_laysRound 3 = .ok (.istore_n 2, 1) := by decide +kernel
theorem dX12_laysRound_4 : decode cX12_laysRound 4 = .ok (.iconst 0, 1) := by decide +kernel
theorem dX12_laysRound_5 : decode cX12_laysRound 5 = .ok (.istore_n 3, 1) := by decide +kernel
theorem dX12_laysRound_6 : decode cX12_laysRound 6 = .ok (.iload_n 3, 1) := by decide +kernel
theorem dX12_laysRound_7 : decode cX12_laysRound 7 = .ok (.aload_n 0, 1) := by decide +kernel
theorem dX12_laysRound_8 : decode cX12_laysRound 8 = .ok (.getfield 285, 3) := by decide +kernel
theorem dX12_laysRound_11 : decode cX12_laysRound 11 = .ok (.if_icmp .ge 193, 3) := by decide +kernel
theorem dX12_laysRound_14 : decode cX12_laysRound 14 = .ok (.aload_n 0, 1) := by decide +kernel
theorem dX12_laysRound_15 : decode cX12_laysRound 15 = .ok (.getfield 80, 3) := by decide +kernel
theorem dX12_laysRound_18 : decode cX12_laysRound 18 = .ok (.iload_n 3, 1) := by decide +kernel
theorem dX12_laysRound_19 : decode cX12_laysRound 19 = .ok (.iaload, 1) := by decide +kernel
theorem dX12_laysRound_20 : decode cX12_laysRound 20 = .ok (.iconst 2, 1) := by decide +kernel
theorem dX12_laysRound_21 : decode cX12_laysRound 21 = .ok (.if_icmp .ne 29, 3) := by decide +kernel
theorem dX12_laysRound_24 : decode cX12_laysRound 24 = .ok (.aload_n 0, 1) := by decide +kernel
theorem dX12_laysRound_25 : decode cX12_laysRound 25 = .ok (.getfield 89, 3) := by decide +kernel
theorem dX12_laysRound_28 : decode cX12_laysRound 28 = .ok (.iload_n 2, 1) := by decide +kernel
theorem dX12_laysRound_29 : decode cX12_laysRound 29 = .ok (.iload_n 3, 1) := by decide +kernel
theorem dX12_laysRound_30 : decode cX12_laysRound 30 = .ok (.iastore, 1) := by decide +kernel
theorem dX12_laysRound_31 : decode cX12_laysRound 31 = .ok (.aload_n 0, 1) := by decide +kernel
theorem dX12_laysRound_32 : decode cX12_laysRound 32 = .ok (.getfield 92, 3) := by decide +kernel
theorem dX12_laysRound_35 : decode cX12_laysRound 35 = .ok (.iload_n 2, 1) := by decide +kernel
theorem dX12_laysRound_36 : decode cX12_laysRound 36 = .ok (.aload_n 0, 1) := by decide +kernel
theorem dX12_laysRound_37 : decode cX12_laysRound 37 = .ok (.getfield 83, 3) := by decide +kernel
theorem dX12_laysRound_40 : decode cX12_laysRound 40 = .ok (.iload_n 3, 1) := by decide +kernel
theorem dX12_laysRound_41 : decode cX12_laysRound 41 = .ok (.iaload, 1) := by decide +kernel
theorem dX12_laysRound_42 : decode cX12_laysRound 42 = .ok (.iastore, 1) := by decide +kernel
theorem dX12_laysRound_43 : decode cX12_laysRound 43 = .ok (.iload_n 2, 1) := by decide +kernel
theorem dX12_laysRound_44 : decode cX12_laysRound 44 = .ok (.iconst 1, 1) := by decide +kernel
theorem dX12_laysRound_45 : decode cX12_laysRound 45 = .ok (.iadd, 1) := by decide +kernel
theorem dX12_laysRound_46 : decode cX12_laysRound 46 = .ok (.istore_n 2, 1) := by decide +kernel
theorem dX12_laysRound_47 : decode cX12_laysRound 47 = .ok (.goto 151, 3) := by decide +kernel
theorem dX12_laysRound_50 : decode cX12_laysRound 50 = .ok (.aload_n 0, 1) := by decide +kernel
theorem dX12_laysRound_51 : decode cX12_laysRound 51 = .ok (.getfield 80, 3) := by decide +kernel
theorem dX12_laysRound_54 : decode cX12_laysRound 54 = .ok (.iload_n 3, 1) := by decide +kernel
theorem dX12_laysRound_55 : decode cX12_laysRound 55 = .ok (.iaload, 1) := by decide +kernel
theorem dX12_laysRound_56 : decode cX12_laysRound 56 = .ok (.iconst 3, 1) := by decide +kernel
theorem dX12_laysRound_57 : decode cX12_laysRound 57 = .ok (.if_icmp .ne 51, 3) := by decide +kernel
theorem dX12_laysRound_60 : decode cX12_laysRound 60 = .ok (.aload_n 0, 1) := by decide +kernel
theorem dX12_laysRound_61 : decode cX12_laysRound 61 = .ok (.getfield 92, 3) := by decide +kernel
theorem dX12_laysRound_64 : decode cX12_laysRound 64 = .ok (.iload_n 2, 1) := by decide +kernel
theorem dX12_laysRound_65 : decode cX12_laysRound 65 = .ok (.iconst 1, 1) := by decide +kernel
theorem dX12_laysRound_66 : decode cX12_laysRound 66 = .ok (.isub, 1) := by decide +kernel
theorem dX12_laysRound_67 : decode cX12_laysRound 67 = .ok (.aload_n 0, 1) := by decide +kernel
theorem dX12_laysRound_68 : decode cX12_laysRound 68 = .ok (.getfield 92, 3) := by decide +kernel
theorem dX12_laysRound_71 : decode cX12_laysRound 71 = .ok (.iload_n 2, 1) := by decide +kernel
theorem dX12_laysRound_72 : decode cX12_laysRound 72 = .ok (.iconst 1, 1) := by decide +kernel
theorem dX12_laysRound_73 : decode cX12_laysRound 73 = .ok (.isub, 1) := by decide +kernel
theorem dX12_laysRound_74 : decode cX12_laysRound 74 = .ok (.iaload, 1) := by decide +kernel
theorem dX12_laysRound_75 : decode cX12_laysRound 75 = .ok (.iconst 1, 1) := by decide +kernel
theorem dX12_laysRound_76 : decode cX12_laysRound 76 = .ok (.isub, 1) := by decide +kernel
theorem dX12_laysRound_77 : decode cX12_laysRound 77 = .ok (.iastore, 1) := by decide +kernel
theorem dX12_laysRound_78 : decode cX12_laysRound 78 = .ok (.aload_n 0, 1) := by decide +kernel
theorem dX12_laysRound_79 : decode cX12_laysRound 79 = .ok (.getfield 92, 3) := by decide +kernel
theorem dX12_laysRound_82 : decode cX12_laysRound 82 = .ok (.iload_n 2, 1) := by decide +kernel
theorem dX12_laysRound_83 : decode cX12_laysRound 83 = .ok (.iconst 1, 1) := by decide +kernel
theorem dX12_laysRound_84 : decode cX12_laysRound 84 = .ok (.isub, 1) := by decide +kernel
theorem dX12_laysRound_85 : decode cX12_laysRound 85 = .ok (.iaload, 1) := by decide +kernel
theorem dX12_laysRound_86 : decode cX12_laysRound 86 = .ok (.ifCond .le 15, 3) := by decide +kernel
theorem dX12_laysRound_89 : decode cX12_laysRound 89 = .ok (.aload_n 0, 1) := by decide +kernel
theorem dX12_laysRound_90 : decode cX12_laysRound 90 = .ok (.getfield 89, 3) := by decide +kernel
theorem dX12_laysRound_93 : decode cX12_laysRound 93 = .ok (.iload_n 2, 1) := by decide +kernel
theorem dX12_laysRound_94 : decode cX12_laysRound 94 = .ok (.iconst 1, 1) := by decide +kernel
theorem dX12_laysRound_95 : decode cX12_laysRound 95 = .ok (.isub, 1) := by decide +kernel
theorem dX12_laysRound_96 : decode cX12_laysRound 96 = .ok (.iaload, 1) := by decide +kernel
theorem dX12_laysRound_97 : decode cX12_laysRound 97 = .ok (.istore_n 3, 1) := by decide +kernel
theorem dX12_laysRound_98 : decode cX12_laysRound 98 = .ok (.goto 100, 3) := by decide +kernel
theorem dX12_laysRound_101 : decode cX12_laysRound 101 = .ok (.iload_n 2, 1) := by decide +kernel
theorem dX12_laysRound_102 : decode cX12_laysRound 102 = .ok (.iconst 1, 1) := by decide +kernel
theorem dX12_laysRound_103 : decode cX12_laysRound 103 = .ok (.isub, 1) := by decide +kernel
theorem dX12_laysRound_104 : decode cX12_laysRound 104 = .ok (.istore_n 2, 1) := by decide +kernel
theorem dX12_laysRound_105 : decode cX12_laysRound 105 = .ok (.goto 93, 3) := by decide +kernel
theorem dX12_laysRound_108 : decode cX12_laysRound 108 = .ok (.aload_n 0, 1) := by decide +kernel
theorem dX12_laysRound_109 : decode cX12_laysRound 109 = .ok (.getfield 80, 3) := by decide +kernel
theorem dX12_laysRound_112 : decode cX12_laysRound 112 = .ok (.iload_n 3, 1) := by decide +kernel
theorem dX12_laysRound_113 : decode cX12_laysRound 113 = .ok (.iaload, 1) := by decide +kernel
theorem dX12_laysRound_114 : decode cX12_laysRound 114 = .ok (.ifCond .ne 7, 3) := by decide +kernel
theorem dX12_laysRound_117 : decode cX12_laysRound 117 = .ok (.iconst 1, 1) := by decide +kernel
theorem dX12_laysRound_118 : decode cX12_laysRound 118 = .ok (.goto 9, 3) := by decide +kernel
theorem dX12_laysRound_121 : decode cX12_laysRound 121 = .ok (.aload_n 0, 1) := by decide +kernel
theorem dX12_laysRound_122 : decode cX12_laysRound 122 = .ok (.getfield 83, 3) := by decide +kernel
theorem dX12_laysRound_125 : decode cX12_laysRound 125 = .ok (.iload_n 3, 1) := by decide +kernel
theorem dX12_laysRound_126 : decode cX12_laysRound 126 = .ok (.iaload, 1) := by decide +kernel
theorem dX12_laysRound_127 : decode cX12_laysRound 127 = .ok (.istore 4, 2) := by decide +kernel
theorem dX12_laysRound_129 : decode cX12_laysRound 129 = .ok (.iload_n 1, 1) := by decide +kernel
theorem dX12_laysRound_130 : decode cX12_laysRound 130 = .ok (.iload 4, 2) := by decide +kernel
theorem dX12_laysRound_132 : decode cX12_laysRound 132 = .ok (.iadd, 1) := by decide +kernel
theorem dX12_laysRound_133 : decode cX12_laysRound 133 = .ok (.sipush 200, 3) := by decide +kernel
theorem dX12_laysRound_136 : decode cX12_laysRound 136 = .ok (.if_icmp .le 9, 3) := by decide +kernel
theorem dX12_laysRound_139 : decode cX12_laysRound 139 = .ok (.aload_n 0, 1) := by decide +kernel
theorem dX12_laysRound_140 : decode cX12_laysRound 140 = .ok (.iconst 4, 1) := by decide +kernel
theorem dX12_laysRound_141 : decode cX12_laysRound 141 = .ok (.invokevirtual 222, 3) := by decide +kernel
theorem dX12_laysRound_144 : decode cX12_laysRound 144 = .ok (.ireturn, 1) := by decide +kernel
theorem dX12_laysRound_145 : decode cX12_laysRound 145 = .ok (.iconst 0, 1) := by decide +kernel
theorem dX12_laysRound_146 : decode cX12_laysRound 146 = .ok (.istore 5, 2) := by decide +kernel
theorem dX12_laysRound_148 : decode cX12_laysRound 148 = .ok (.iload 5, 2) := by decide +kernel
theorem dX12_laysRound_150 : decode cX12_laysRound 150 = .ok (.iload 4, 2) := by decide +kernel
theorem dX12_laysRound_152 : decode cX12_laysRound 152 = .ok (.if_icmp .ge 41, 3) := by decide +kernel
theorem dX12_laysRound_155 : decode cX12_laysRound 155 = .ok (.aload_n 0, 1) := by decide +kernel
theorem dX12_laysRound_156 : decode cX12_laysRound 156 = .ok (.getfield 86, 3) := by decide +kernel
theorem dX12_laysRound_159 : decode cX12_laysRound 159 = .ok (.sipush 200, 3) := by decide +kernel
theorem dX12_laysRound_162 : decode cX12_laysRound 162 = .ok (.iload_n 1, 1) := by decide +kernel
theorem dX12_laysRound_163 : decode cX12_laysRound 163 = .ok (.iadd, 1) := by decide +kernel
theorem dX12_laysRound_164 : decode cX12_laysRound 164 = .ok (.iload 5, 2) := by decide +kernel
theorem dX12_laysRound_166 : decode cX12_laysRound 166 = .ok (.iadd, 1) := by decide +kernel
theorem dX12_laysRound_167 : decode cX12_laysRound 167 = .ok (.aload_n 0, 1) := by decide +kernel
theorem dX12_laysRound_168 : decode cX12_laysRound 168 = .ok (.getfield 80, 3) := by decide +kernel
theorem dX12_laysRound_171 : decode cX12_laysRound 171 = .ok (.iload_n 3, 1) := by decide +kernel
theorem dX12_laysRound_172 : decode cX12_laysRound 172 = .ok (.iaload, 1) := by decide +kernel
theorem dX12_laysRound_173 : decode cX12_laysRound 173 = .ok (.ifCond .ne 12, 3) := by decide +kernel
theorem dX12_laysRound_176 : decode cX12_laysRound 176 = .ok (.aload_n 0, 1) := by decide +kernel
theorem dX12_laysRound_177 : decode cX12_laysRound 177 = .ok (.getfield 83, 3) := by decide +kernel
theorem dX12_laysRound_180 : decode cX12_laysRound 180 = .ok (.iload_n 3, 1) := by decide +kernel
theorem dX12_laysRound_181 : decode cX12_laysRound 181 = .ok (.iaload, 1) := by decide +kernel
theorem dX12_laysRound_182 : decode cX12_laysRound 182 = .ok (.goto 4, 3) := by decide +kernel
theorem dX12_laysRound_185 : decode cX12_laysRound 185 = .ok (.iconst (-1), 1) := by decide +kernel
theorem dX12_laysRound_186 : decode cX12_laysRound 186 = .ok (.iastore, 1) := by decide +kernel
theorem dX12_laysRound_187 : decode cX12_laysRound 187 = .ok (.iinc 5 1, 3) := by decide +kernel
theorem dX12_laysRound_190 : decode cX12_laysRound 190 = .ok (.goto (-42), 3) := by decide +kernel
theorem dX12_laysRound_193 : decode cX12_laysRound 193 = .ok (.iload_n 1, 1) := by decide +kernel
theorem dX12_laysRound_194 : decode cX12_laysRound 194 = .ok (.iload 4, 2) := by decide +kernel
theorem dX12_laysRound_196 : decode cX12_laysRound 196 = .ok (.iadd, 1) := by decide +kernel
theorem dX12_laysRound_197 : decode cX12_laysRound 197 = .ok (.istore_n 1, 1) := by decide +kernel
theorem dX12_laysRound_198 : decode cX12_laysRound 198 = .ok (.iinc 3 1, 3) := by decide +kernel
theorem dX12_laysRound_201 : decode cX12_laysRound 201 = .ok (.goto (-195), 3) := by decide +kernel
theorem dX12_laysRound_204 : decode cX12_laysRound 204 = .ok (.iload_n 1, 1) := by decide +kernel
theorem dX12_laysRound_205 : decode cX12_laysRound 205 = .ok (.ireturn, 1) := by decide +kernel
theorem dX12_readRound_0 : decode cX12_readRound 0 = .ok (.aload_n 0, 1) := by decide +kernel
theorem dX12_readRound_1 : decode cX12_readRound 1 = .ok (.invokevirtual 303, 3) := by decide +kernel
theorem dX12_readRound_4 : decode cX12_readRound 4 = .ok (.iconst (-1), 1) := by decide +kernel
theorem dX12_readRound_5 : decode cX12_readRound 5 = .ok (.if_icmp .ne 7, 3) := by decide +kernel
theorem dX12_readRound_8 : decode cX12_readRound 8 = .ok (.iconst (-1), 1) := by decide +kernel
theorem dX12_readRound_9 : decode cX12_readRound 9 = .ok (.goto 7, 3) := by decide +kernel
theorem dX12_readRound_12 : decode cX12_readRound 12 = .ok (.aload_n 0, 1) := by decide +kernel
theorem dX12_readRound_13 : decode cX12_readRound 13 = .ok (.invokevirtual 306, 3) := by decide +kernel
theorem dX12_readRound_16 : decode cX12_readRound 16 = .ok (.ireturn, 1) := by decide +kernel
theorem q_1450 : Cond.fieldLink RX12 89 "LampRoundModel" "backTo" "[I" ∈ GW := inG 1450 (by decide +kernel) (by decide +kernel)
theorem q_1451 : Cond.fieldLink RX12 92 "LampRoundModel" "timesLeft" "[I" ∈ GW := inG 1451 (by decide +kernel) (by decide +kernel)
theorem q_1734 : Cond.methodLink RX12 303 yX12_readSteps ∈ GW := inG 1734 (by decide +kernel) (by decide +kernel)
theorem q_1736 : Cond.instanceMethod yX12_readSteps ∈ GW := inG 1736 (by decide +kernel) (by decide +kernel)
theorem q_1737 : Cond.code yX12_readSteps cX12_readSteps 2 (some .int) ∈ GW := inG 1737 (by decide +kernel) (by decide +kernel)
theorem q_1758 : Cond.methodLink RX12 306 yX12_laysRound ∈ GW := inG 1758 (by decide +kernel) (by decide +kernel)
theorem q_1760 : Cond.instanceMethod yX12_laysRound ∈ GW := inG 1760 (by decide +kernel) (by decide +kernel)
theorem q_1761 : Cond.code yX12_laysRound cX12_laysRound 6 (some .int) ∈ GW := inG 1761 (by decide +kernel) (by decide +kernel)
theorem q_69 : Cond.selects RX12 yX12_readSteps yX12_readSteps ∈ GW := inG 69 (by decide +kernel) (by decide +kernel)
theorem q_75 : Cond.selects RX12 yX12_laysRound yX12_laysRound ∈ GW := inG 75 (by decide +kernel) (by decide +kernel)
theorem hdV_X12_laysRound : yX12_laysRound.cls = RX12 ∧ yX12_laysRound.cls ≠ "java/lang/invoke/MethodHandle" ∧ yX12_laysRound.cls ≠ "java/lang/invoke/VarHandle" ∧ (parseMethodDescriptor yX12_laysRound.desc).map (fun d => d.parameters.length) = some 0 := by decide +kernel
theorem hdV_X12_readSteps : yX12_readSteps.cls = RX12 ∧ yX12_readSteps.cls ≠ "java/lang/invoke/MethodHandle" ∧ yX12_readSteps.cls ≠ "java/lang/invoke/VarHandle" ∧ (parseMethodDescriptor yX12_readSteps.desc).map (fun d => d.parameters.length) = some 0 := by decide +kernel
