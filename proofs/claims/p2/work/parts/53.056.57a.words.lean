theorem dX10_burningOf_0 : decode cX10_burningOf 0 = .ok (.aload_n 0, 1) := by decide +kernel
theorem dX10_burningOf_1 : decode cX10_burningOf 1 = .ok (.aload_n 1, 1) := by decide +kernel
theorem dX10_burningOf_2 : decode cX10_burningOf 2 = .ok (.iload_n 2, 1) := by decide +kernel
theorem dX10_burningOf_3 : decode cX10_burningOf 3 = .ok (.invokevirtual 152, 3) := by decide +kernel
theorem dX10_burningOf_6 : decode cX10_burningOf 6 = .ok (.iconst 0, 1) := by decide +kernel
theorem dX10_burningOf_7 : decode cX10_burningOf 7 = .ok (.bipush 99, 2) := by decide +kernel
theorem dX10_burningOf_9 : decode cX10_burningOf 9 = .ok (.aload_n 0, 1) := by decide +kernel
theorem dX10_burningOf_10 : decode cX10_burningOf 10 = .ok (.getfield 46, 3) := by decide +kernel
theorem dX10_burningOf_13 : decode cX10_burningOf 13 = .ok (.aload_n 0, 1) := by decide +kernel
theorem dX10_burningOf_14 : decode cX10_burningOf 14 = .ok (.getfield 74, 3) := by decide +kernel
theorem dX10_burningOf_17 : decode cX10_burningOf 17 = .ok (.iconst 1, 1) := by decide +kernel
theorem dX10_burningOf_18 : decode cX10_burningOf 18 = .ok (.invokevirtual 156, 3) := by decide +kernel
theorem dX10_burningOf_21 : decode cX10_burningOf 21 = .ok (.invokestatic 160, 3) := by decide +kernel
theorem dX10_burningOf_24 : decode cX10_burningOf 24 = .ok (.invokestatic 166, 3) := by decide +kernel
theorem dX10_burningOf_27 : decode cX10_burningOf 27 = .ok (.ireturn, 1) := by decide +kernel
theorem dX10_countOwed_0 : decode cX10_countOwed 0 = .ok (.iconst 0, 1) := by decide +kernel
theorem dX10_countOwed_1 : decode cX10_countOwed 1 = .ok (.istore_n 2, 1) := by decide +kernel
theorem dX10_countOwed_2 : decode cX10_countOwed 2 = .ok (.iload_n 2, 1) := by decide +kernel
theorem dX10_countOwed_3 : decode cX10_countOwed 3 = .ok (.aload_n 0, 1) := by decide +kernel
theorem dX10_countOwed_4 : decode cX10_countOwed 4 = .ok (.getfield 21, 3) := by decide +kernel
theorem dX10_countOwed_7 : decode cX10_countOwed 7 = .ok (.getfield 145, 3) := by decide +kernel
theorem dX10_countOwed_10 : decode cX10_countOwed 10 = .ok (.if_icmp .ge 54, 3) := by decide +kernel
theorem dX10_countOwed_13 : decode cX10_countOwed 13 = .ok (.aload_n 1, 1) := by decide +kernel
theorem dX10_countOwed_14 : decode cX10_countOwed 14 = .ok (.iload_n 2, 1) := by decide +kernel
theorem dX10_countOwed_15 : decode cX10_countOwed 15 = .ok (.invokevirtual 169, 3) := by decide +kernel
theorem dX10_countOwed_18 : decode cX10_countOwed 18 = .ok (.istore_n 3, 1) := by decide +kernel
theorem dX10_countOwed_19 : decode cX10_countOwed 19 = .ok (.iload_n 3, 1) := by decide +kernel
theorem dX10_countOwed_20 : decode cX10_countOwed 20 = .ok (.ifCond .le 38, 3) := by decide +kernel
theorem dX10_countOwed_23 : decode cX10_countOwed 23 = .ok (.aload_n 0, 1) := by decide +kernel
theorem dX10_countOwed_24 : decode cX10_countOwed 24 = .ok (.getfield 71, 3) := by decide +kernel
theorem dX10_countOwed_27 : decode cX10_countOwed 27 = .ok (.ifCond .le 31, 3) := by decide +kernel
theorem dX10_countOwed_30 : decode cX10_countOwed 30 = .ok (.iload_n 3, 1) := by decide +kernel
theorem dX10_countOwed_31 : decode cX10_countOwed 31 = .ok (.aload_n 0, 1) := by decide +kernel
theorem dX10_countOwed_32 : decode cX10_countOwed 32 = .ok (.getfield 71, 3) := by decide +kernel
theorem dX10_countOwed_35 : decode cX10_countOwed 35 = .ok (.irem, 1) := by decide +kernel
theorem dX10_countOwed_36 : decode cX10_countOwed 36 = .ok (.ifCond .ne 22, 3) := by decide +kernel
theorem dX10_countOwed_39 : decode cX10_countOwed 39 = .ok (.aload_n 1, 1) := by decide +kernel
theorem dX10_countOwed_40 : decode cX10_countOwed 40 = .ok (.getfield 132, 3) := by decide +kernel
theorem dX10_countOwed_43 : decode cX10_countOwed 43 = .ok (.iload_n 2, 1) := by decide +kernel
theorem dX10_countOwed_44 : decode cX10_countOwed 44 = .ok (.bipush 99, 2) := by decide +kernel
theorem dX10_countOwed_46 : decode cX10_countOwed 46 = .ok (.aload_n 1, 1) := by decide +kernel
theorem dX10_countOwed_47 : decode cX10_countOwed 47 = .ok (.getfield 132, 3) := by decide +kernel
theorem dX10_countOwed_50 : decode cX10_countOwed 50 = .ok (.iload_n 2, 1) := by decide +kernel
theorem dX10_countOwed_51 : decode cX10_countOwed 51 = .ok (.iaload, 1) := by decide +kernel
theorem dX10_countOwed_52 : decode cX10_countOwed 52 = .ok (.iconst 1, 1) := by decide +kernel
theorem dX10_countOwed_53 : decode cX10_countOwed 53 = .ok (.iadd, 1) := by decide +kernel
theorem dX10_countOwed_54 : decode cX10_countOwed 54 = .ok (.invokestatic 160, 3) := by decide +kernel
theorem dX10_countOwed_57 : decode cX10_countOwed 57 = .ok (.iastore, 1) := by decide +kernel
theorem dX10_countOwed_58 : decode cX10_countOwed 58 = .ok (.iinc 2 1, 3) := by decide +kernel
theorem dX10_countOwed_61 : decode cX10_countOwed 61 = .ok (.goto (-59), 3) := by decide +kernel
theorem dX10_countOwed_64 : decode cX10_countOwed 64 = .ok (.return_, 1) := by decide +kernel
theorem dX10_drawSnow_0 : decode cX10_drawSnow 0 = .ok (.aload_n 0, 1) := by decide +kernel
theorem dX10_drawSnow_1 : decode cX10_drawSnow 1 = .ok (.getfield 114, 3) := by decide +kernel
theorem dX10_drawSnow_4 : decode cX10_drawSnow 4 = .ok (.ifCond .gt 4, 3) := by decide +kernel
theorem dX10_drawSnow_7 : decode cX10_drawSnow 7 = .ok (.return_, 1) := by decide +kernel
theorem dX10_drawSnow_8 : decode cX10_drawSnow 8 = .ok (.aload_n 1, 1) := by decide +kernel
theorem dX10_drawSnow_9 : decode cX10_drawSnow 9 = .ok (.sipush 1000, 3) := by decide +kernel
theorem dX10_drawSnow_12 : decode cX10_drawSnow 12 = .ok (.invokevirtual 252, 3) := by decide +kernel
theorem dX10_drawSnow_15 : decode cX10_drawSnow 15 = .ok (.aload_n 0, 1) := by decide +kernel
theorem dX10_drawSnow_16 : decode cX10_drawSnow 16 = .ok (.getfield 114, 3) := by decide +kernel
theorem dX10_drawSnow_19 : decode cX10_drawSnow 19 = .ok (.if_icmp .ge 21, 3) := by decide +kernel
theorem dX10_drawSnow_22 : decode cX10_drawSnow 22 = .ok (.aload_n 1, 1) := by decide +kernel
theorem dX10_drawSnow_23 : decode cX10_drawSnow 23 = .ok (.bipush 9, 2) := by decide +kernel
theorem dX10_drawSnow_25 : decode cX10_drawSnow 25 = .ok (.aload_n 1, 1) := by decide +kernel
theorem dX10_drawSnow_26 : decode cX10_drawSnow 26 = .ok (.getfield 120, 3) := by decide +kernel
theorem dX10_drawSnow_29 : decode cX10_drawSnow 29 = .ok (.iconst 1, 1) := by decide +kernel
theorem dX10_drawSnow_30 : decode cX10_drawSnow 30 = .ok (.iadd, 1) := by decide +kernel
theorem dX10_drawSnow_31 : decode cX10_drawSnow 31 = .ok (.invokestatic 160, 3) := by decide +kernel
theorem dX10_drawSnow_34 : decode cX10_drawSnow 34 = .ok (.putfield 120, 3) := by decide +kernel
theorem dX10_drawSnow_37 : decode cX10_drawSnow 37 = .ok (.goto 17, 3) := by decide +kernel
theorem dX10_drawSnow_40 : decode cX10_drawSnow 40 = .ok (.aload_n 1, 1) := by decide +kernel
theorem dX10_drawSnow_41 : decode cX10_drawSnow 41 = .ok (.iconst 0, 1) := by decide +kernel
theorem dX10_drawSnow_42 : decode cX10_drawSnow 42 = .ok (.aload_n 1, 1) := by decide +kernel
theorem dX10_drawSnow_43 : decode cX10_drawSnow 43 = .ok (.getfield 120, 3) := by decide +kernel
theorem dX10_drawSnow_46 : decode cX10_drawSnow 46 = .ok (.iconst 1, 1) := by decide +kernel
theorem dX10_drawSnow_47 : decode cX10_drawSnow 47 = .ok (.isub, 1) := by decide +kernel
theorem dX10_drawSnow_48 : decode cX10_drawSnow 48 = .ok (.invokestatic 166, 3) := by decide +kernel
theorem dX10_drawSnow_51 : decode cX10_drawSnow 51 = .ok (.putfield 120, 3) := by decide +kernel
theorem dX10_drawSnow_54 : decode cX10_drawSnow 54 = .ok (.return_, 1) := by decide +kernel
theorem dX10_isReached_0 : decode cX10_isReached 0 = .ok (.aload_n 0, 1) := by decide +kernel
theorem dX10_isReached_1 : decode cX10_isReached 1 = .ok (.getfield 28, 3) := by decide +kernel
theorem dX10_isReached_4 : decode cX10_isReached 4 = .ok (.iload_n 1, 1) := by decide +kernel
theorem dX10_isReached_5 : decode cX10_isReached 5 = .ok (.iload_n 2, 1) := by decide +kernel
theorem dX10_isReached_6 : decode cX10_isReached 6 = .ok (.iload_n 3, 1) := by decide +kernel
theorem dX10_isReached_7 : decode cX10_isReached 7 = .ok (.invokevirtual 141, 3) := by decide +kernel
theorem dX10_isReached_10 : decode cX10_isReached 10 = .ok (.istore 4, 2) := by decide +kernel
theorem dX10_isReached_12 : decode cX10_isReached 12 = .ok (.iload 4, 2) := by decide +kernel
theorem dX10_isReached_14 : decode cX10_isReached 14 = .ok (.iconst (-1), 1) := by decide +kernel
theorem dX10_isReached_15 : decode cX10_isReached 15 = .ok (.if_icmp .eq 16, 3) := by decide +kernel
theorem dX10_isReached_18 : decode cX10_isReached 18 = .ok (.iload 4, 2) := by decide +kernel
theorem dX10_isReached_20 : decode cX10_isReached 20 = .ok (.aload_n 0, 1) := by decide +kernel
theorem dX10_isReached_21 : decode cX10_isReached 21 = .ok (.getfield 67, 3) := by decide +kernel
theorem dX10_isReached_24 : decode cX10_isReached 24 = .ok (.if_icmp .gt 7, 3) := by decide +kernel
theorem dX10_isReached_27 : decode cX10_isReached 27 = .ok (.iconst 1, 1) := by decide +kernel
theorem dX10_isReached_28 : decode cX10_isReached 28 = .ok (.goto 4, 3) := by decide +kernel
theorem dX10_isReached_31 : decode cX10_isReached 31 = .ok (.iconst 0, 1) := by decide +kernel
theorem dX10_isReached_32 : decode cX10_isReached 32 = .ok (.ireturn, 1) := by decide +kernel
theorem dX10_light_0 : decode cX10_light 0 = .ok (.aload_n 1, 1) := by decide +kernel
theorem dX10_light_1 : decode cX10_light 1 = .ok (.iload_n 2, 1) := by decide +kernel
theorem dX10_light_2 : decode cX10_light 2 = .ok (.invokevirtual 220, 3) := by decide +kernel
theorem dX10_light_5 : decode cX10_light 5 = .ok (.istore_n 3, 1) := by decide +kernel
theorem dX10_light_6 : decode cX10_light 6 = .ok (.iconst 0, 1) := by decide +kernel
theorem dX10_light_7 : decode cX10_light 7 = .ok (.istore 4, 2) := by decide +kernel
theorem dX10_light_9 : decode cX10_light 9 = .ok (.iconst 0, 1) := by decide +kernel
theorem dX10_light_10 : decode cX10_light 10 = .ok (.istore 5, 2) := by decide +kernel
theorem dX10_light_12 : decode cX10_light 12 = .ok (.iload 5, 2) := by decide +kernel
theorem dX10_light_14 : decode cX10_light 14 = .ok (.aload_n 0, 1) := by decide +kernel
theorem dX10_light_15 : decode cX10_light 15 = .ok (.getfield 35, 3) := by decide +kernel
theorem dX10_light_18 : decode cX10_light 18 = .ok (.getfield 223, 3) := by decide +kernel
theorem dX10_light_21 : decode cX10_light 21 = .ok (.if_icmp .ge 86, 3) := by decide +kernel
theorem dX10_light_24 : decode cX10_light 24 = .ok (.aload_n 0, 1) := by decide +kernel
theorem dX10_light_25 : decode cX10_light 25 = .ok (.getfield 35, 3) := by decide +kernel
theorem dX10_light_28 : decode cX10_light 28 = .ok (.getfield 224, 3) := by decide +kernel
theorem dX10_light_31 : decode cX10_light 31 = .ok (.iload 5, 2) := by decide +kernel
theorem dX10_light_33 : decode cX10_light 33 = .ok (.iaload, 1) := by decide +kernel
theorem dX10_light_34 : decode cX10_light 34 = .ok (.iconst 3, 1) := by decide +kernel
theorem dX10_light_35 : decode cX10_light 35 = .ok (.if_icmp .ne 7, 3) := by decide +kernel
theorem dX10_light_38 : decode cX10_light 38 = .ok (.iload_n 3, 1) := by decide +kernel
theorem dX10_light_39 : decode cX10_light 39 = .ok (.ifCond .eq 7, 3) := by decide +kernel
theorem dX10_light_42 : decode cX10_light 42 = .ok (.iconst 1, 1) := by decide +kernel
theorem dX10_light_43 : decode cX10_light 43 = .ok (.goto 4, 3) := by decide +kernel
theorem dX10_light_46 : decode cX10_light 46 = .ok (.iconst 0, 1) := by decide +kernel
theorem dX10_light_47 : decode cX10_light 47 = .ok (.istore 6, 2) := by decide +kernel
theorem dX10_light_49 : decode cX10_light 49 = .ok (.aload_n 0, 1) := by decide +kernel
theorem dX10_light_50 : decode cX10_light 50 = .ok (.getfield 35, 3) := by decide +kernel
theorem dX10_light_53 : decode cX10_light 53 = .ok (.getfield 227, 3) := by decide +kernel
theorem dX10_light_56 : decode cX10_light 56 = .ok (.iload 5, 2) := by decide +kernel
theorem dX10_light_58 : decode cX10_light 58 = .ok (.iaload, 1) := by decide +kernel
theorem dX10_light_59 : decode cX10_light 59 = .ok (.iload_n 2, 1) := by decide +kernel
theorem dX10_light_60 : decode cX10_light 60 = .ok (.if_icmp .ne 41, 3) := by decide +kernel
theorem dX10_light_63 : decode cX10_light 63 = .ok (.aload_n 0, 1) := by decide +kernel
theorem dX10_light_64 : decode cX10_light 64 = .ok (.getfield 35, 3) := by decide +kernel
theorem dX10_light_67 : decode cX10_light 67 = .ok (.iload 5, 2) := by decide +kernel
theorem dX10_light_69 : decode cX10_light 69 = .ok (.aload_n 1, 1) := by decide +kernel
theorem dX10_light_70 : decode cX10_light 70 = .ok (.invokevirtual 230, 3) := by decide +kernel
theorem dX10_light_73 : decode cX10_light 73 = .ok (.ifCond .eq 28, 3) := by decide +kernel
theorem dX10_light_76 : decode cX10_light 76 = .ok (.iload 6, 2) := by decide +kernel
theorem dX10_light_78 : decode cX10_light 78 = .ok (.ifCond .eq 23, 3) := by decide +kernel
theorem dX10_light_81 : decode cX10_light 81 = .ok (.aload_n 1, 1) := by decide +kernel
theorem dX10_light_82 : decode cX10_light 82 = .ok (.getfield 234, 3) := by decide +kernel
theorem dX10_light_85 : decode cX10_light 85 = .ok (.iload 5, 2) := by decide +kernel
theorem dX10_light_87 : decode cX10_light 87 = .ok (.aload_n 1, 1) := by decide +kernel
theorem dX10_light_88 : decode cX10_light 88 = .ok (.getfield 173, 3) := by decide +kernel
theorem dX10_light_91 : decode cX10_light 91 = .ok (.iastore, 1) := by decide +kernel
theorem dX10_light_92 : decode cX10_light 92 = .ok (.iload 4, 2) := by decide +kernel
theorem dX10_light_94 : decode cX10_light 94 = .ok (.iconst 1, 1) := by decide +kernel
theorem dX10_light_95 : decode cX10_light 95 = .ok (.iload 5, 2) := by decide +kernel
theorem dX10_light_97 : decode cX10_light 97 = .ok (.ishl, 1) := by decide +kernel
theorem dX10_light_98 : decode cX10_light 98 = .ok (.ior, 1) := by decide +kernel
theorem dX10_light_99 : decode cX10_light 99 = .ok (.istore 4, 2) := by decide +kernel
theorem dX10_light_101 : decode cX10_light 101 = .ok (.iinc 5 1, 3) := by decide +kernel
theorem dX10_light_104 : decode cX10_light 104 = .ok (.goto (-92), 3) := by decide +kernel
theorem dX10_light_107 : decode cX10_light 107 = .ok (.aload_n 1, 1) := by decide +kernel
theorem dX10_light_108 : decode cX10_light 108 = .ok (.getfield 237, 3) := by decide +kernel
theorem dX10_light_111 : decode cX10_light 111 = .ok (.iload_n 2, 1) := by decide +kernel
theorem dX10_light_112 : decode cX10_light 112 = .ok (.dup2, 1) := by decide +kernel
theorem dX10_light_113 : decode cX10_light 113 = .ok (.iaload, 1) := by decide +kernel
theorem dX10_light_114 : decode cX10_light 114 = .ok (.iconst 1, 1) := by decide +kernel
theorem dX10_light_115 : decode cX10_light 115 = .ok (.iadd, 1) := by decide +kernel
theorem dX10_light_116 : decode cX10_light 116 = .ok (.iastore, 1) := by decide +kernel
theorem dX10_light_117 : decode cX10_light 117 = .ok (.aload_n 1, 1) := by decide +kernel
theorem dX10_light_118 : decode cX10_light 118 = .ok (.getfield 240, 3) := by decide +kernel
theorem dX10_light_121 : decode cX10_light 121 = .ok (.iload_n 2, 1) := by decide +kernel
theorem dX10_light_122 : decode cX10_light 122 = .ok (.aload_n 1, 1) := by decide +kernel
theorem dX10_light_123 : decode cX10_light 123 = .ok (.getfield 173, 3) := by decide +kernel
theorem dX10_light_126 : decode cX10_light 126 = .ok (.iastore, 1) := by decide +kernel
theorem dX10_light_127 : decode cX10_light 127 = .ok (.aload_n 1, 1) := by decide +kernel
theorem dX10_light_128 : decode cX10_light 128 = .ok (.getfield 132, 3) := by decide +kernel
theorem dX10_light_131 : decode cX10_light 131 = .ok (.iload_n 2, 1) := by decide +kernel
theorem dX10_light_132 : decode cX10_light 132 = .ok (.iconst 0, 1) := by decide +kernel
theorem dX10_light_133 : decode cX10_light 133 = .ok (.aload_n 1, 1) := by decide +kernel
theorem dX10_light_134 : decode cX10_light 134 = .ok (.getfield 132, 3) := by decide +kernel
theorem dX10_light_137 : decode cX10_light 137 = .ok (.iload_n 2, 1) := by decide +kernel
theorem dX10_light_138 : decode cX10_light 138 = .ok (.iaload, 1) := by decide +kernel
theorem dX10_light_139 : decode cX10_light 139 = .ok (.iconst 1, 1) := by decide +kernel
theorem dX10_light_140 : decode cX10_light 140 = .ok (.isub, 1) := by decide +kernel
theorem dX10_light_141 : decode cX10_light 141 = .ok (.invokestatic 166, 3) := by decide +kernel
theorem dX10_light_144 : decode cX10_light 144 = .ok (.iastore, 1) := by decide +kernel
theorem dX10_light_145 : decode cX10_light 145 = .ok (.iload 4, 2) := by decide +kernel
theorem dX10_light_147 : decode cX10_light 147 = .ok (.ireturn, 1) := by decide +kernel
theorem dX10_nextHouse_0 : decode cX10_nextHouse 0 = .ok (.aload_n 1, 1) := by decide +kernel
theorem dX10_nextHouse_1 : decode cX10_nextHouse 1 = .ok (.getfield 188, 3) := by decide +kernel
theorem dX10_nextHouse_4 : decode cX10_nextHouse 4 = .ok (.aload_n 0, 1) := by decide +kernel
theorem dX10_nextHouse_5 : decode cX10_nextHouse 5 = .ok (.getfield 52, 3) := by decide +kernel
theorem dX10_nextHouse_8 : decode cX10_nextHouse 8 = .ok (.getfield 191, 3) := by decide +kernel
theorem dX10_nextHouse_11 : decode cX10_nextHouse 11 = .ok (.if_icmp .ge 56, 3) := by decide +kernel
theorem dX10_nextHouse_14 : decode cX10_nextHouse 14 = .ok (.aload_n 1, 1) := by decide +kernel
theorem dX10_nextHouse_15 : decode cX10_nextHouse 15 = .ok (.getfield 188, 3) := by decide +kernel
theorem dX10_nextHouse_18 : decode cX10_nextHouse 18 = .ok (.sipush 200, 3) := by decide +kernel
theorem dX10_nextHouse_21 : decode cX10_nextHouse 21 = .ok (.if_icmp .ge 46, 3) := by decide +kernel
theorem dX10_nextHouse_24 : decode cX10_nextHouse 24 = .ok (.aload_n 0, 1) := by decide +kernel
theorem dX10_nextHouse_25 : decode cX10_nextHouse 25 = .ok (.getfield 52, 3) := by decide +kernel
theorem dX10_nextHouse_28 : decode cX10_nextHouse 28 = .ok (.getfield 214, 3) := by decide +kernel
theorem dX10_nextHouse_31 : decode cX10_nextHouse 31 = .ok (.aload_n 1, 1) := by decide +kernel
theorem dX10_nextHouse_32 : decode cX10_nextHouse 32 = .ok (.getfield 188, 3) := by decide +kernel
theorem dX10_nextHouse_35 : decode cX10_nextHouse 35 = .ok (.iaload, 1) := by decide +kernel
theorem dX10_nextHouse_36 : decode cX10_nextHouse 36 = .ok (.istore_n 2, 1) := by decide +kernel
theorem dX10_nextHouse_37 : decode cX10_nextHouse 37 = .ok (.iload_n 2, 1) := by decide +kernel
theorem dX10_nextHouse_38 : decode cX10_nextHouse 38 = .ok (.iconst (-1), 1) := by decide +kernel
theorem dX10_nextHouse_39 : decode cX10_nextHouse 39 = .ok (.if_icmp .eq 23, 3) := by decide +kernel
theorem dX10_nextHouse_42 : decode cX10_nextHouse 42 = .ok (.aload_n 0, 1) := by decide +kernel
theorem dX10_nextHouse_43 : decode cX10_nextHouse 43 = .ok (.aload_n 1, 1) := by decide +kernel
theorem dX10_nextHouse_44 : decode cX10_nextHouse 44 = .ok (.getfield 123, 3) := by decide +kernel
theorem dX10_nextHouse_47 : decode cX10_nextHouse 47 = .ok (.iload_n 2, 1) := by decide +kernel
theorem dX10_nextHouse_48 : decode cX10_nextHouse 48 = .ok (.aload_n 1, 1) := by decide +kernel
theorem dX10_nextHouse_49 : decode cX10_nextHouse 49 = .ok (.getfield 120, 3) := by decide +kernel
theorem dX10_nextHouse_52 : decode cX10_nextHouse 52 = .ok (.invokevirtual 148, 3) := by decide +kernel
theorem dX10_nextHouse_55 : decode cX10_nextHouse 55 = .ok (.ifCond .eq 7, 3) := by decide +kernel
theorem dX10_nextHouse_58 : decode cX10_nextHouse 58 = .ok (.iload_n 2, 1) := by decide +kernel
theorem dX10_nextHouse_59 : decode cX10_nextHouse 59 = .ok (.goto 7, 3) := by decide +kernel
theorem dX10_nextHouse_62 : decode cX10_nextHouse 62 = .ok (.aload_n 1, 1) := by decide +kernel
theorem dX10_nextHouse_63 : decode cX10_nextHouse 63 = .ok (.getfield 123, 3) := by decide +kernel
theorem dX10_nextHouse_66 : decode cX10_nextHouse 66 = .ok (.ireturn, 1) := by decide +kernel
theorem dX10_nextHouse_67 : decode cX10_nextHouse 67 = .ok (.iconst (-1), 1) := by decide +kernel
theorem dX10_nextHouse_68 : decode cX10_nextHouse 68 = .ok (.istore_n 2, 1) := by decide +kernel
theorem dX10_nextHouse_69 : decode cX10_nextHouse 69 = .ok (.iconst 0, 1) := by decide +kernel
theorem dX10_nextHouse_70 : decode cX10_nextHouse 70 = .ok (.istore_n 3, 1) := by decide +kernel
theorem dX10_nextHouse_71 : decode cX10_nextHouse 71 = .ok (.iconst 0, 1) := by decide +kernel
theorem dX10_nextHouse_72 : decode cX10_nextHouse 72 = .ok (.istore 4, 2) := by decide +kernel
theorem dX10_nextHouse_74 : decode cX10_nextHouse 74 = .ok (.iload 4, 2) := by decide +kernel
theorem dX10_nextHouse_76 : decode cX10_nextHouse 76 = .ok (.aload_n 0, 1) := by decide +kernel
theorem dX10_nextHouse_77 : decode cX10_nextHouse 77 = .ok (.getfield 21, 3) := by decide +kernel
theorem dX10_nextHouse_80 : decode cX10_nextHouse 80 = .ok (.getfield 145, 3) := by decide +kernel
theorem dX10_nextHouse_83 : decode cX10_nextHouse 83 = .ok (.if_icmp .ge 52, 3) := by decide +kernel
theorem dX10_nextHouse_86 : decode cX10_nextHouse 86 = .ok (.aload_n 0, 1) := by decide +kernel
theorem dX10_nextHouse_87 : decode cX10_nextHouse 87 = .ok (.aload_n 1, 1) := by decide +kernel
theorem dX10_nextHouse_88 : decode cX10_nextHouse 88 = .ok (.getfield 123, 3) := by decide +kernel
theorem dX10_nextHouse_91 : decode cX10_nextHouse 91 = .ok (.iload 4, 2) := by decide +kernel
theorem dX10_nextHouse_93 : decode cX10_nextHouse 93 = .ok (.aload_n 1, 1) := by decide +kernel
theorem dX10_nextHouse_94 : decode cX10_nextHouse 94 = .ok (.getfield 120, 3) := by decide +kernel
theorem dX10_nextHouse_97 : decode cX10_nextHouse 97 = .ok (.invokevirtual 148, 3) := by decide +kernel
theorem dX10_nextHouse_100 : decode cX10_nextHouse 100 = .ok (.ifCond .eq 29, 3) := by decide +kernel
theorem dX10_nextHouse_103 : decode cX10_nextHouse 103 = .ok (.aload_n 0, 1) := by decide +kernel
theorem dX10_nextHouse_104 : decode cX10_nextHouse 104 = .ok (.aload_n 1, 1) := by decide +kernel
theorem dX10_nextHouse_105 : decode cX10_nextHouse 105 = .ok (.iload 4, 2) := by decide +kernel
theorem dX10_nextHouse_107 : decode cX10_nextHouse 107 = .ok (.invokevirtual 217, 3) := by decide +kernel
theorem dX10_nextHouse_110 : decode cX10_nextHouse 110 = .ok (.istore 5, 2) := by decide +kernel
theorem dX10_nextHouse_112 : decode cX10_nextHouse 112 = .ok (.iload_n 2, 1) := by decide +kernel
theorem dX10_nextHouse_113 : decode cX10_nextHouse 113 = .ok (.iconst (-1), 1) := by decide +kernel
theorem dX10_nextHouse_114 : decode cX10_nextHouse 114 = .ok (.if_icmp .eq 9, 3) := by decide +kernel
theorem dX10_nextHouse_117 : decode cX10_nextHouse 117 = .ok (.iload 5, 2) := by decide +kernel
theorem dX10_nextHouse_119 : decode cX10_nextHouse 119 = .ok (.iload_n 3, 1) := by decide +kernel
theorem dX10_nextHouse_120 : decode cX10_nextHouse 120 = .ok (.if_icmp .le 9, 3) := by decide +kernel
theorem dX10_nextHouse_123 : decode cX10_nextHouse 123 = .ok (.iload 4, 2) := by decide +kernel
theorem dX10_nextHouse_125 : decode cX10_nextHouse 125 = .ok (.istore_n 2, 1) := by decide +kernel
theorem dX10_nextHouse_126 : decode cX10_nextHouse 126 = .ok (.iload 5, 2) := by decide +kernel
theorem dX10_nextHouse_128 : decode cX10_nextHouse 128 = .ok (.istore_n 3, 1) := by decide +kernel
theorem dX10_nextHouse_129 : decode cX10_nextHouse 129 = .ok (.iinc 4 1, 3) := by decide +kernel
theorem dX10_nextHouse_132 : decode cX10_nextHouse 132 = .ok (.goto (-58), 3) := by decide +kernel
theorem dX10_nextHouse_135 : decode cX10_nextHouse 135 = .ok (.iload_n 2, 1) := by decide +kernel
theorem dX10_nextHouse_136 : decode cX10_nextHouse 136 = .ok (.ireturn, 1) := by decide +kernel
theorem dX10_passNight_0 : decode cX10_passNight 0 = .ok (.aload_n 0, 1) := by decide +kernel
theorem dX10_passNight_1 : decode cX10_passNight 1 = .ok (.aload_n 1, 1) := by decide +kernel
theorem dX10_passNight_2 : decode cX10_passNight 2 = .ok (.invokevirtual 180, 3) := by decide +kernel
theorem dX10_passNight_5 : decode cX10_passNight 5 = .ok (.istore_n 3, 1) := by decide +kernel
theorem dX10_passNight_6 : decode cX10_passNight 6 = .ok (.aload_n 0, 1) := by decide +kernel
theorem dX10_passNight_7 : decode cX10_passNight 7 = .ok (.getfield 21, 3) := by decide +kernel
theorem dX10_passNight_10 : decode cX10_passNight 10 = .ok (.iload_n 3, 1) := by decide +kernel
theorem dX10_passNight_11 : decode cX10_passNight 11 = .ok (.invokevirtual 184, 3) := by decide +kernel
theorem dX10_passNight_14 : decode cX10_passNight 14 = .ok (.ifCond .ne 5, 3) := by decide +kernel
theorem dX10_passNight_17 : decode cX10_passNight 17 = .ok (.iconst 0, 1) := by decide +kernel
theorem dX10_passNight_18 : decode cX10_passNight 18 = .ok (.ireturn, 1) := by decide +kernel
theorem dX10_passNight_19 : decode cX10_passNight 19 = .ok (.aload_n 1, 1) := by decide +kernel
theorem dX10_passNight_20 : decode cX10_passNight 20 = .ok (.getfield 188, 3) := by decide +kernel
theorem dX10_passNight_23 : decode cX10_passNight 23 = .ok (.aload_n 0, 1) := by decide +kernel
theorem dX10_passNight_24 : decode cX10_passNight 24 = .ok (.getfield 52, 3) := by decide +kernel
theorem dX10_passNight_27 : decode cX10_passNight 27 = .ok (.getfield 191, 3) := by decide +kernel
theorem dX10_passNight_30 : decode cX10_passNight 30 = .ok (.if_icmp .ge 13, 3) := by decide +kernel
theorem dX10_passNight_33 : decode cX10_passNight 33 = .ok (.aload_n 1, 1) := by decide +kernel
theorem dX10_passNight_34 : decode cX10_passNight 34 = .ok (.dup, 1) := by decide +kernel
theorem dX10_passNight_35 : decode cX10_passNight 35 = .ok (.getfield 188, 3) := by decide +kernel
theorem dX10_passNight_38 : decode cX10_passNight 38 = .ok (.iconst 1, 1) := by decide +kernel
theorem dX10_passNight_39 : decode cX10_passNight 39 = .ok (.iadd, 1) := by decide +kernel
theorem dX10_passNight_40 : decode cX10_passNight 40 = .ok (.putfield 188, 3) := by decide +kernel
theorem dX10_passNight_43 : decode cX10_passNight 43 = .ok (.aload_n 1, 1) := by decide +kernel
theorem dX10_passNight_44 : decode cX10_passNight 44 = .ok (.iload_n 3, 1) := by decide +kernel
theorem dX10_passNight_45 : decode cX10_passNight 45 = .ok (.putfield 123, 3) := by decide +kernel
theorem dX10_passNight_48 : decode cX10_passNight 48 = .ok (.aload_n 0, 1) := by decide +kernel
theorem dX10_passNight_49 : decode cX10_passNight 49 = .ok (.aload_n 1, 1) := by decide +kernel
theorem dX10_passNight_50 : decode cX10_passNight 50 = .ok (.iload_n 3, 1) := by decide +kernel
theorem dX10_passNight_51 : decode cX10_passNight 51 = .ok (.invokevirtual 194, 3) := by decide +kernel
theorem dX10_passNight_54 : decode cX10_passNight 54 = .ok (.istore 4, 2) := by decide +kernel
theorem dX10_passNight_56 : decode cX10_passNight 56 = .ok (.aload_n 1, 1) := by decide +kernel
theorem dX10_passNight_57 : decode cX10_passNight 57 = .ok (.getfield 129, 3) := by decide +kernel
theorem dX10_passNight_60 : decode cX10_passNight 60 = .ok (.iload_n 3, 1) := by decide +kernel
theorem dX10_passNight_61 : decode cX10_passNight 61 = .ok (.iaload, 1) := by decide +kernel
theorem dX10_passNight_62 : decode cX10_passNight 62 = .ok (.iload 4, 2) := by decide +kernel
theorem dX10_passNight_64 : decode cX10_passNight 64 = .ok (.if_icmp .lt 7, 3) := by decide +kernel
theorem dX10_passNight_67 : decode cX10_passNight 67 = .ok (.iconst 1, 1) := by decide +kernel
theorem dX10_passNight_68 : decode cX10_passNight 68 = .ok (.goto 4, 3) := by decide +kernel
theorem dX10_passNight_71 : decode cX10_passNight 71 = .ok (.iconst 0, 1) := by decide +kernel
theorem dX10_passNight_72 : decode cX10_passNight 72 = .ok (.istore 5, 2) := by decide +kernel
theorem dX10_passNight_74 : decode cX10_passNight 74 = .ok (.iload 4, 2) := by decide +kernel
theorem dX10_passNight_76 : decode cX10_passNight 76 = .ok (.aload_n 1, 1) := by decide +kernel
theorem dX10_passNight_77 : decode cX10_passNight 77 = .ok (.getfield 129, 3) := by decide +kernel
theorem dX10_passNight_80 : decode cX10_passNight 80 = .ok (.iload_n 3, 1) := by decide +kernel
theorem dX10_passNight_81 : decode cX10_passNight 81 = .ok (.iaload, 1) := by decide +kernel
theorem dX10_passNight_82 : decode cX10_passNight 82 = .ok (.invokestatic 160, 3) := by decide +kernel
theorem dX10_passNight_85 : decode cX10_passNight 85 = .ok (.istore 6, 2) := by decide +kernel
theorem dX10_passNight_87 : decode cX10_passNight 87 = .ok (.aload_n 1, 1) := by decide +kernel
theorem dX10_passNight_88 : decode cX10_passNight 88 = .ok (.getfield 129, 3) := by decide +kernel
theorem dX10_passNight_91 : decode cX10_passNight 91 = .ok (.iload_n 3, 1) := by decide +kernel
theorem dX10_passNight_92 : decode cX10_passNight 92 = .ok (.dup2, 1) := by decide +kernel
theorem dX10_passNight_93 : decode cX10_passNight 93 = .ok (.iaload, 1) := by decide +kernel
theorem dX10_passNight_94 : decode cX10_passNight 94 = .ok (.iload 6, 2) := by decide +kernel
theorem dX10_passNight_96 : decode cX10_passNight 96 = .ok (.isub, 1) := by decide +kernel
theorem dX10_passNight_97 : decode cX10_passNight 97 = .ok (.iastore, 1) := by decide +kernel
theorem dX10_passNight_98 : decode cX10_passNight 98 = .ok (.iload 5, 2) := by decide +kernel
theorem dX10_passNight_100 : decode cX10_passNight 100 = .ok (.ifCond .eq 12, 3) := by decide +kernel
theorem dX10_passNight_103 : decode cX10_passNight 103 = .ok (.aload_n 0, 1) := by decide +kernel
theorem dX10_passNight_104 : decode cX10_passNight 104 = .ok (.aload_n 1, 1) := by decide +kernel
theorem dX10_passNight_105 : decode cX10_passNight 105 = .ok (.iload_n 3, 1) := by decide +kernel
theorem dX10_passNight_106 : decode cX10_passNight 106 = .ok (.invokevirtual 198, 3) := by decide +kernel
theorem dX10_passNight_109 : decode cX10_passNight 109 = .ok (.goto 4, 3) := by decide +kernel
theorem dX10_passNight_112 : decode cX10_passNight 112 = .ok (.iconst 0, 1) := by decide +kernel
theorem dX10_passNight_113 : decode cX10_passNight 113 = .ok (.istore 7, 2) := by decide +kernel
theorem dX10_passNight_115 : decode cX10_passNight 115 = .ok (.aload_n 0, 1) := by decide +kernel
theorem dX10_passNight_116 : decode cX10_passNight 116 = .ok (.aload_n 1, 1) := by decide +kernel
theorem dX10_passNight_117 : decode cX10_passNight 117 = .ok (.invokevirtual 201, 3) := by decide +kernel
theorem dX10_passNight_120 : decode cX10_passNight 120 = .ok (.aload_n 0, 1) := by decide +kernel
theorem dX10_passNight_121 : decode cX10_passNight 121 = .ok (.aload_n 1, 1) := by decide +kernel
theorem dX10_passNight_122 : decode cX10_passNight 122 = .ok (.invokevirtual 204, 3) := by decide +kernel
theorem dX10_passNight_125 : decode cX10_passNight 125 = .ok (.iload_n 2, 1) := by decide +kernel
theorem dX10_passNight_126 : decode cX10_passNight 126 = .ok (.ifCond .eq 27, 3) := by decide +kernel
theorem dX10_passNight_129 : decode cX10_passNight 129 = .ok (.aload_n 0, 1) := by decide +kernel
theorem dX10_passNight_130 : decode cX10_passNight 130 = .ok (.aload_n 1, 1) := by decide +kernel
theorem dX10_passNight_131 : decode cX10_passNight 131 = .ok (.iload 5, 2) := by decide +kernel
theorem dX10_passNight_133 : decode cX10_passNight 133 = .ok (.ifCond .eq 7, 3) := by decide +kernel
theorem dX10_passNight_136 : decode cX10_passNight 136 = .ok (.iconst 1, 1) := by decide +kernel
theorem dX10_passNight_137 : decode cX10_passNight 137 = .ok (.goto 4, 3) := by decide +kernel
theorem dX10_passNight_140 : decode cX10_passNight 140 = .ok (.iconst 0, 1) := by decide +kernel
theorem dX10_passNight_141 : decode cX10_passNight 141 = .ok (.iload 6, 2) := by decide +kernel
theorem dX10_passNight_143 : decode cX10_passNight 143 = .ok (.iload 7, 2) := by decide +kernel
theorem dX10_passNight_145 : decode cX10_passNight 145 = .ok (.invokevirtual 207, 3) := by decide +kernel
theorem dX10_passNight_148 : decode cX10_passNight 148 = .ok (.aload_n 0, 1) := by decide +kernel
theorem dX10_passNight_149 : decode cX10_passNight 149 = .ok (.aload_n 1, 1) := by decide +kernel
theorem dX10_passNight_150 : decode cX10_passNight 150 = .ok (.invokevirtual 211, 3) := by decide +kernel
theorem dX10_passNight_153 : decode cX10_passNight 153 = .ok (.aload_n 1, 1) := by decide +kernel
theorem dX10_passNight_154 : decode cX10_passNight 154 = .ok (.dup, 1) := by decide +kernel
theorem dX10_passNight_155 : decode cX10_passNight 155 = .ok (.getfield 173, 3) := by decide +kernel
theorem dX10_passNight_158 : decode cX10_passNight 158 = .ok (.iconst 1, 1) := by decide +kernel
theorem dX10_passNight_159 : decode cX10_passNight 159 = .ok (.iadd, 1) := by decide +kernel
theorem dX10_passNight_160 : decode cX10_passNight 160 = .ok (.putfield 173, 3) := by decide +kernel
theorem dX10_passNight_163 : decode cX10_passNight 163 = .ok (.iload 5, 2) := by decide +kernel
theorem dX10_passNight_165 : decode cX10_passNight 165 = .ok (.ireturn, 1) := by decide +kernel
theorem dX10_reachedSet_0 : decode cX10_reachedSet 0 = .ok (.iconst 0, 1) := by decide +kernel
theorem dX10_reachedSet_1 : decode cX10_reachedSet 1 = .ok (.istore_n 2, 1) := by decide +kernel
theorem dX10_reachedSet_2 : decode cX10_reachedSet 2 = .ok (.iconst 0, 1) := by decide +kernel
theorem dX10_reachedSet_3 : decode cX10_reachedSet 3 = .ok (.istore_n 3, 1) := by decide +kernel
theorem dX10_reachedSet_4 : decode cX10_reachedSet 4 = .ok (.iload_n 3, 1) := by decide +kernel
theorem dX10_reachedSet_5 : decode cX10_reachedSet 5 = .ok (.aload_n 0, 1) := by decide +kernel
theorem dX10_reachedSet_6 : decode cX10_reachedSet 6 = .ok (.getfield 21, 3) := by decide +kernel
theorem dX10_reachedSet_9 : decode cX10_reachedSet 9 = .ok (.getfield 145, 3) := by decide +kernel
theorem dX10_reachedSet_12 : decode cX10_reachedSet 12 = .ok (.if_icmp .ge 31, 3) := by decide +kernel
theorem dX10_reachedSet_15 : decode cX10_reachedSet 15 = .ok (.aload_n 0, 1) := by decide +kernel
theorem dX10_reachedSet_16 : decode cX10_reachedSet 16 = .ok (.iload_n 1, 1) := by decide +kernel
theorem dX10_reachedSet_17 : decode cX10_reachedSet 17 = .ok (.iload_n 3, 1) := by decide +kernel
theorem dX10_reachedSet_18 : decode cX10_reachedSet 18 = .ok (.aload_n 0, 1) := by decide +kernel
theorem dX10_reachedSet_19 : decode cX10_reachedSet 19 = .ok (.getfield 12, 3) := by decide +kernel
theorem dX10_reachedSet_22 : decode cX10_reachedSet 22 = .ok (.getfield 120, 3) := by decide +kernel
theorem dX10_reachedSet_25 : decode cX10_reachedSet 25 = .ok (.invokevirtual 148, 3) := by decide +kernel
theorem dX10_reachedSet_28 : decode cX10_reachedSet 28 = .ok (.ifCond .eq 9, 3) := by decide +kernel
theorem dX10_reachedSet_31 : decode cX10_reachedSet 31 = .ok (.iload_n 2, 1) := by decide +kernel
theorem dX10_reachedSet_32 : decode cX10_reachedSet 32 = .ok (.iconst 1, 1) := by decide +kernel
theorem dX10_reachedSet_33 : decode cX10_reachedSet 33 = .ok (.iload_n 3, 1) := by decide +kernel
theorem dX10_reachedSet_34 : decode cX10_reachedSet 34 = .ok (.ishl, 1) := by decide +kernel
theorem dX10_reachedSet_35 : decode cX10_reachedSet 35 = .ok (.ior, 1) := by decide +kernel
theorem dX10_reachedSet_36 : decode cX10_reachedSet 36 = .ok (.istore_n 2, 1) := by decide +kernel
theorem dX10_reachedSet_37 : decode cX10_reachedSet 37 = .ok (.iinc 3 1, 3) := by decide +kernel
theorem dX10_reachedSet_40 : decode cX10_reachedSet 40 = .ok (.goto (-36), 3) := by decide +kernel
theorem dX10_reachedSet_43 : decode cX10_reachedSet 43 = .ok (.iload_n 2, 1) := by decide +kernel
theorem dX10_reachedSet_44 : decode cX10_reachedSet 44 = .ok (.ireturn, 1) := by decide +kernel
theorem dX10_readHouse_0 : decode cX10_readHouse 0 = .ok (.aload_n 0, 1) := by decide +kernel
theorem dX10_readHouse_1 : decode cX10_readHouse 1 = .ok (.getfield 28, 3) := by decide +kernel
theorem dX10_readHouse_4 : decode cX10_readHouse 4 = .ok (.aload_n 1, 1) := by decide +kernel
theorem dX10_readHouse_5 : decode cX10_readHouse 5 = .ok (.getfield 123, 3) := by decide +kernel
theorem dX10_readHouse_8 : decode cX10_readHouse 8 = .ok (.iload_n 2, 1) := by decide +kernel
theorem dX10_readHouse_9 : decode cX10_readHouse 9 = .ok (.aload_n 1, 1) := by decide +kernel
theorem dX10_readHouse_10 : decode cX10_readHouse 10 = .ok (.getfield 120, 3) := by decide +kernel
theorem dX10_readHouse_13 : decode cX10_readHouse 13 = .ok (.invokevirtual 141, 3) := by decide +kernel
theorem dX10_readHouse_16 : decode cX10_readHouse 16 = .ok (.istore_n 3, 1) := by decide +kernel
theorem dX10_readHouse_17 : decode cX10_readHouse 17 = .ok (.aload_n 0, 1) := by decide +kernel
theorem dX10_readHouse_18 : decode cX10_readHouse 18 = .ok (.getfield 74, 3) := by decide +kernel
theorem dX10_readHouse_21 : decode cX10_readHouse 21 = .ok (.iconst 0, 1) := by decide +kernel
theorem dX10_readHouse_22 : decode cX10_readHouse 22 = .ok (.iload_n 2, 1) := by decide +kernel
theorem dX10_readHouse_23 : decode cX10_readHouse 23 = .ok (.iastore, 1) := by decide +kernel
theorem dX10_readHouse_24 : decode cX10_readHouse 24 = .ok (.aload_n 0, 1) := by decide +kernel
theorem dX10_readHouse_25 : decode cX10_readHouse 25 = .ok (.getfield 74, 3) := by decide +kernel
theorem dX10_readHouse_28 : decode cX10_readHouse 28 = .ok (.iconst 1, 1) := by decide +kernel
theorem dX10_readHouse_29 : decode cX10_readHouse 29 = .ok (.aload_n 1, 1) := by decide +kernel
theorem dX10_readHouse_30 : decode cX10_readHouse 30 = .ok (.getfield 132, 3) := by decide +kernel
theorem dX10_readHouse_33 : decode cX10_readHouse 33 = .ok (.iload_n 2, 1) := by decide +kernel
theorem dX10_readHouse_34 : decode cX10_readHouse 34 = .ok (.iaload, 1) := by decide +kernel
theorem dX10_readHouse_35 : decode cX10_readHouse 35 = .ok (.iastore, 1) := by decide +kernel
theorem dX10_readHouse_36 : decode cX10_readHouse 36 = .ok (.aload_n 0, 1) := by decide +kernel
theorem dX10_readHouse_37 : decode cX10_readHouse 37 = .ok (.getfield 74, 3) := by decide +kernel
theorem dX10_readHouse_40 : decode cX10_readHouse 40 = .ok (.iconst 2, 1) := by decide +kernel
theorem dX10_readHouse_41 : decode cX10_readHouse 41 = .ok (.aload_n 1, 1) := by decide +kernel
theorem dX10_readHouse_42 : decode cX10_readHouse 42 = .ok (.iload_n 2, 1) := by decide +kernel
theorem dX10_readHouse_43 : decode cX10_readHouse 43 = .ok (.invokevirtual 169, 3) := by decide +kernel
theorem dX10_readHouse_46 : decode cX10_readHouse 46 = .ok (.iastore, 1) := by decide +kernel
theorem dX10_readHouse_47 : decode cX10_readHouse 47 = .ok (.aload_n 0, 1) := by decide +kernel
theorem dX10_readHouse_48 : decode cX10_readHouse 48 = .ok (.getfield 74, 3) := by decide +kernel
theorem dX10_readHouse_51 : decode cX10_readHouse 51 = .ok (.iconst 3, 1) := by decide +kernel
theorem dX10_readHouse_52 : decode cX10_readHouse 52 = .ok (.aload_n 1, 1) := by decide +kernel
theorem dX10_readHouse_53 : decode cX10_readHouse 53 = .ok (.getfield 120, 3) := by decide +kernel
theorem dX10_readHouse_56 : decode cX10_readHouse 56 = .ok (.iastore, 1) := by decide +kernel
theorem dX10_readHouse_57 : decode cX10_readHouse 57 = .ok (.aload_n 0, 1) := by decide +kernel
theorem dX10_readHouse_58 : decode cX10_readHouse 58 = .ok (.getfield 74, 3) := by decide +kernel
theorem dX10_readHouse_61 : decode cX10_readHouse 61 = .ok (.iconst 4, 1) := by decide +kernel
theorem dX10_readHouse_62 : decode cX10_readHouse 62 = .ok (.aload_n 1, 1) := by decide +kernel
theorem dX10_readHouse_63 : decode cX10_readHouse 63 = .ok (.getfield 129, 3) := by decide +kernel
theorem dX10_readHouse_66 : decode cX10_readHouse 66 = .ok (.iload_n 2, 1) := by decide +kernel
theorem dX10_readHouse_67 : decode cX10_readHouse 67 = .ok (.iaload, 1) := by decide +kernel
theorem dX10_readHouse_68 : decode cX10_readHouse 68 = .ok (.iastore, 1) := by decide +kernel
theorem dX10_readHouse_69 : decode cX10_readHouse 69 = .ok (.aload_n 0, 1) := by decide +kernel
theorem dX10_readHouse_70 : decode cX10_readHouse 70 = .ok (.getfield 74, 3) := by decide +kernel
theorem dX10_readHouse_73 : decode cX10_readHouse 73 = .ok (.iconst 5, 1) := by decide +kernel
theorem dX10_readHouse_74 : decode cX10_readHouse 74 = .ok (.aload_n 1, 1) := by decide +kernel
theorem dX10_readHouse_75 : decode cX10_readHouse 75 = .ok (.getfield 173, 3) := by decide +kernel
theorem dX10_readHouse_78 : decode cX10_readHouse 78 = .ok (.bipush 120, 2) := by decide +kernel
theorem dX10_readHouse_80 : decode cX10_readHouse 80 = .ok (.irem, 1) := by decide +kernel
theorem dX10_readHouse_81 : decode cX10_readHouse 81 = .ok (.bipush 30, 2) := by decide +kernel
theorem dX10_readHouse_83 : decode cX10_readHouse 83 = .ok (.idiv, 1) := by decide +kernel
theorem dX10_readHouse_84 : decode cX10_readHouse 84 = .ok (.iastore, 1) := by decide +kernel
theorem dX10_readHouse_85 : decode cX10_readHouse 85 = .ok (.aload_n 0, 1) := by decide +kernel
theorem dX10_readHouse_86 : decode cX10_readHouse 86 = .ok (.getfield 74, 3) := by decide +kernel
theorem dX10_readHouse_89 : decode cX10_readHouse 89 = .ok (.bipush 6, 2) := by decide +kernel
theorem dX10_readHouse_91 : decode cX10_readHouse 91 = .ok (.aload_n 0, 1) := by decide +kernel
theorem dX10_readHouse_92 : decode cX10_readHouse 92 = .ok (.getfield 21, 3) := by decide +kernel
theorem dX10_readHouse_95 : decode cX10_readHouse 95 = .ok (.getfield 126, 3) := by decide +kernel
theorem dX10_readHouse_98 : decode cX10_readHouse 98 = .ok (.iload_n 2, 1) := by decide +kernel
theorem dX10_readHouse_99 : decode cX10_readHouse 99 = .ok (.iaload, 1) := by decide +kernel
theorem dX10_readHouse_100 : decode cX10_readHouse 100 = .ok (.iastore, 1) := by decide +kernel
theorem dX10_readHouse_101 : decode cX10_readHouse 101 = .ok (.aload_n 0, 1) := by decide +kernel
theorem dX10_readHouse_102 : decode cX10_readHouse 102 = .ok (.getfield 74, 3) := by decide +kernel
theorem dX10_readHouse_105 : decode cX10_readHouse 105 = .ok (.bipush 7, 2) := by decide +kernel
theorem dX10_readHouse_107 : decode cX10_readHouse 107 = .ok (.aload_n 0, 1) := by decide +kernel
theorem dX10_readHouse_108 : decode cX10_readHouse 108 = .ok (.getfield 35, 3) := by decide +kernel
theorem dX10_readHouse_111 : decode cX10_readHouse 111 = .ok (.iload_n 2, 1) := by decide +kernel
theorem dX10_readHouse_112 : decode cX10_readHouse 112 = .ok (.aload_n 1, 1) := by decide +kernel
theorem dX10_readHouse_113 : decode cX10_readHouse 113 = .ok (.invokevirtual 176, 3) := by decide +kernel
theorem dX10_readHouse_116 : decode cX10_readHouse 116 = .ok (.iastore, 1) := by decide +kernel
theorem dX10_readHouse_117 : decode cX10_readHouse 117 = .ok (.aload_n 0, 1) := by decide +kernel
theorem dX10_readHouse_118 : decode cX10_readHouse 118 = .ok (.getfield 74, 3) := by decide +kernel
theorem dX10_readHouse_121 : decode cX10_readHouse 121 = .ok (.bipush 8, 2) := by decide +kernel
theorem dX10_readHouse_123 : decode cX10_readHouse 123 = .ok (.iload_n 3, 1) := by decide +kernel
theorem dX10_readHouse_124 : decode cX10_readHouse 124 = .ok (.iconst (-1), 1) := by decide +kernel
theorem dX10_readHouse_125 : decode cX10_readHouse 125 = .ok (.if_icmp .ne 8, 3) := by decide +kernel
theorem dX10_readHouse_128 : decode cX10_readHouse 128 = .ok (.bipush 99, 2) := by decide +kernel
theorem dX10_readHouse_130 : decode cX10_readHouse 130 = .ok (.goto 4, 3) := by decide +kernel
theorem dX10_readHouse_133 : decode cX10_readHouse 133 = .ok (.iload_n 3, 1) := by decide +kernel
theorem dX10_readHouse_134 : decode cX10_readHouse 134 = .ok (.iastore, 1) := by decide +kernel
theorem dX10_readHouse_135 : decode cX10_readHouse 135 = .ok (.aload_n 0, 1) := by decide +kernel
theorem dX10_readHouse_136 : decode cX10_readHouse 136 = .ok (.getfield 74, 3) := by decide +kernel
theorem dX10_readHouse_139 : decode cX10_readHouse 139 = .ok (.bipush 9, 2) := by decide +kernel
theorem dX10_readHouse_141 : decode cX10_readHouse 141 = .ok (.aload_n 0, 1) := by decide +kernel
theorem dX10_readHouse_142 : decode cX10_readHouse 142 = .ok (.getfield 21, 3) := by decide +kernel
theorem dX10_readHouse_145 : decode cX10_readHouse 145 = .ok (.getfield 135, 3) := by decide +kernel
theorem dX10_readHouse_148 : decode cX10_readHouse 148 = .ok (.iload_n 2, 1) := by decide +kernel
theorem dX10_readHouse_149 : decode cX10_readHouse 149 = .ok (.iaload, 1) := by decide +kernel
theorem dX10_readHouse_150 : decode cX10_readHouse 150 = .ok (.iastore, 1) := by decide +kernel
theorem dX10_readHouse_151 : decode cX10_readHouse 151 = .ok (.return_, 1) := by decide +kernel
theorem dX10_spoilNeeds_0 : decode cX10_spoilNeeds 0 = .ok (.iconst 0, 1) := by decide +kernel
theorem dX10_spoilNeeds_1 : decode cX10_spoilNeeds 1 = .ok (.istore_n 2, 1) := by decide +kernel
theorem dX10_spoilNeeds_2 : decode cX10_spoilNeeds 2 = .ok (.iload_n 2, 1) := by decide +kernel
theorem dX10_spoilNeeds_3 : decode cX10_spoilNeeds 3 = .ok (.aload_n 0, 1) := by decide +kernel
theorem dX10_spoilNeeds_4 : decode cX10_spoilNeeds 4 = .ok (.getfield 35, 3) := by decide +kernel
theorem dX10_spoilNeeds_7 : decode cX10_spoilNeeds 7 = .ok (.getfield 223, 3) := by decide +kernel
theorem dX10_spoilNeeds_10 : decode cX10_spoilNeeds 10 = .ok (.if_icmp .ge 47, 3) := by decide +kernel
theorem dX10_spoilNeeds_13 : decode cX10_spoilNeeds 13 = .ok (.aload_n 0, 1) := by decide +kernel
theorem dX10_spoilNeeds_14 : decode cX10_spoilNeeds 14 = .ok (.getfield 35, 3) := by decide +kernel
theorem dX10_spoilNeeds_17 : decode cX10_spoilNeeds 17 = .ok (.getfield 243, 3) := by decide +kernel
theorem dX10_spoilNeeds_20 : decode cX10_spoilNeeds 20 = .ok (.iload_n 2, 1) := by decide +kernel
theorem dX10_spoilNeeds_21 : decode cX10_spoilNeeds 21 = .ok (.iaload, 1) := by decide +kernel
theorem dX10_spoilNeeds_22 : decode cX10_spoilNeeds 22 = .ok (.aload_n 1, 1) := by decide +kernel
theorem dX10_spoilNeeds_23 : decode cX10_spoilNeeds 23 = .ok (.getfield 173, 3) := by decide +kernel
theorem dX10_spoilNeeds_26 : decode cX10_spoilNeeds 26 = .ok (.if_icmp .ne 25, 3) := by decide +kernel
theorem dX10_spoilNeeds_29 : decode cX10_spoilNeeds 29 = .ok (.aload_n 1, 1) := by decide +kernel
theorem dX10_spoilNeeds_30 : decode cX10_spoilNeeds 30 = .ok (.getfield 234, 3) := by decide +kernel
theorem dX10_spoilNeeds_33 : decode cX10_spoilNeeds 33 = .ok (.iload_n 2, 1) := by decide +kernel
theorem dX10_spoilNeeds_34 : decode cX10_spoilNeeds 34 = .ok (.iaload, 1) := by decide +kernel
theorem dX10_spoilNeeds_35 : decode cX10_spoilNeeds 35 = .ok (.iconst (-1), 1) := by decide +kernel
theorem dX10_spoilNeeds_36 : decode cX10_spoilNeeds 36 = .ok (.if_icmp .ne 15, 3) := by decide +kernel
theorem dX10_spoilNeeds_39 : decode cX10_spoilNeeds 39 = .ok (.aload_n 1, 1) := by decide +kernel
theorem dX10_spoilNeeds_40 : decode cX10_spoilNeeds 40 = .ok (.dup, 1) := by decide +kernel
theorem dX10_spoilNeeds_41 : decode cX10_spoilNeeds 41 = .ok (.getfield 246, 3) := by decide +kernel
theorem dX10_spoilNeeds_44 : decode cX10_spoilNeeds 44 = .ok (.iconst 1, 1) := by decide +kernel
theorem dX10_spoilNeeds_45 : decode cX10_spoilNeeds 45 = .ok (.iload_n 2, 1) := by decide +kernel
theorem dX10_spoilNeeds_46 : decode cX10_spoilNeeds 46 = .ok (.ishl, 1) := by decide +kernel
theorem dX10_spoilNeeds_47 : decode cX10_spoilNeeds 47 = .ok (.ior, 1) := by decide +kernel
theorem dX10_spoilNeeds_48 : decode cX10_spoilNeeds 48 = .ok (.putfield 246, 3) := by decide +kernel
theorem dX10_spoilNeeds_51 : decode cX10_spoilNeeds 51 = .ok (.iinc 2 1, 3) := by decide +kernel
theorem dX10_spoilNeeds_54 : decode cX10_spoilNeeds 54 = .ok (.goto (-52), 3) := by decide +kernel
theorem dX10_spoilNeeds_57 : decode cX10_spoilNeeds 57 = .ok (.return_, 1) := by decide +kernel
theorem dX10_spreadSnow_0 : decode cX10_spreadSnow 0 = .ok (.iconst 0, 1) := by decide +kernel
theorem dX10_spreadSnow_1 : decode cX10_spreadSnow 1 = .ok (.istore_n 2, 1) := by decide +kernel
theorem dX10_spreadSnow_2 : decode cX10_spreadSnow 2 = .ok (.iload_n 2, 1) := by decide +kernel
theorem dX10_spreadSnow_3 : decode cX10_spreadSnow 3 = .ok (.bipush 10, 2) := by decide +kernel
theorem dX10_spreadSnow_5 : decode cX10_spreadSnow 5 = .ok (.if_icmp .ge 33, 3) := by decide +kernel
theorem dX10_spreadSnow_8 : decode cX10_spreadSnow 8 = .ok (.aload_n 0, 1) := by decide +kernel
theorem dX10_spreadSnow_9 : decode cX10_spreadSnow 9 = .ok (.getfield 77, 3) := by decide +kernel
theorem dX10_spreadSnow_12 : decode cX10_spreadSnow 12 = .ok (.iload_n 2, 1) := by decide +kernel
theorem dX10_spreadSnow_13 : decode cX10_spreadSnow 13 = .ok (.iload_n 2, 1) := by decide +kernel
theorem dX10_spreadSnow_14 : decode cX10_spreadSnow 14 = .ok (.aload_n 0, 1) := by decide +kernel
theorem dX10_spreadSnow_15 : decode cX10_spreadSnow 15 = .ok (.getfield 12, 3) := by decide +kernel
theorem dX10_spreadSnow_18 : decode cX10_spreadSnow 18 = .ok (.getfield 120, 3) := by decide +kernel
theorem dX10_spreadSnow_21 : decode cX10_spreadSnow 21 = .ok (.if_icmp .ne 9, 3) := by decide +kernel
theorem dX10_spreadSnow_24 : decode cX10_spreadSnow 24 = .ok (.ldc_w 259, 3) := by decide +kernel
theorem dX10_spreadSnow_27 : decode cX10_spreadSnow 27 = .ok (.goto 4, 3) := by decide +kernel
theorem dX10_spreadSnow_30 : decode cX10_spreadSnow 30 = .ok (.iconst 0, 1) := by decide +kernel
theorem dX10_spreadSnow_31 : decode cX10_spreadSnow 31 = .ok (.iastore, 1) := by decide +kernel
theorem dX10_spreadSnow_32 : decode cX10_spreadSnow 32 = .ok (.iinc 2 1, 3) := by decide +kernel
theorem dX10_spreadSnow_35 : decode cX10_spreadSnow 35 = .ok (.goto (-33), 3) := by decide +kernel
theorem dX10_spreadSnow_38 : decode cX10_spreadSnow 38 = .ok (.aload_n 0, 1) := by decide +kernel
theorem dX10_spreadSnow_39 : decode cX10_spreadSnow 39 = .ok (.getfield 114, 3) := by decide +kernel
theorem dX10_spreadSnow_42 : decode cX10_spreadSnow 42 = .ok (.ifCond .ne 4, 3) := by decide +kernel
theorem dX10_spreadSnow_45 : decode cX10_spreadSnow 45 = .ok (.return_, 1) := by decide +kernel
theorem dX10_spreadSnow_46 : decode cX10_spreadSnow 46 = .ok (.iconst 0, 1) := by decide +kernel
theorem dX10_spreadSnow_47 : decode cX10_spreadSnow 47 = .ok (.istore_n 2, 1) := by decide +kernel
theorem dX10_spreadSnow_48 : decode cX10_spreadSnow 48 = .ok (.iload_n 2, 1) := by decide +kernel
theorem dX10_spreadSnow_49 : decode cX10_spreadSnow 49 = .ok (.iload_n 1, 1) := by decide +kernel
theorem dX10_spreadSnow_50 : decode cX10_spreadSnow 50 = .ok (.if_icmp .ge 118, 3) := by decide +kernel
theorem dX10_spreadSnow_53 : decode cX10_spreadSnow 53 = .ok (.aload_n 0, 1) := by decide +kernel
theorem dX10_spreadSnow_54 : decode cX10_spreadSnow 54 = .ok (.getfield 77, 3) := by decide +kernel
theorem dX10_spreadSnow_57 : decode cX10_spreadSnow 57 = .ok (.iconst 0, 1) := by decide +kernel
theorem dX10_spreadSnow_58 : decode cX10_spreadSnow 58 = .ok (.aload_n 0, 1) := by decide +kernel
theorem dX10_spreadSnow_59 : decode cX10_spreadSnow 59 = .ok (.getfield 80, 3) := by decide +kernel
theorem dX10_spreadSnow_62 : decode cX10_spreadSnow 62 = .ok (.iconst 0, 1) := by decide +kernel
theorem dX10_spreadSnow_63 : decode cX10_spreadSnow 63 = .ok (.bipush 10, 2) := by decide +kernel
theorem dX10_spreadSnow_65 : decode cX10_spreadSnow 65 = .ok (.invokestatic 108, 3) := by decide +kernel
theorem dX10_spreadSnow_68 : decode cX10_spreadSnow 68 = .ok (.iconst 0, 1) := by decide +kernel
theorem dX10_spreadSnow_69 : decode cX10_spreadSnow 69 = .ok (.istore_n 3, 1) := by decide +kernel
theorem dX10_spreadSnow_70 : decode cX10_spreadSnow 70 = .ok (.iload_n 3, 1) := by decide +kernel
theorem dX10_spreadSnow_71 : decode cX10_spreadSnow 71 = .ok (.bipush 10, 2) := by decide +kernel
theorem dX10_spreadSnow_73 : decode cX10_spreadSnow 73 = .ok (.if_icmp .ge 16, 3) := by decide +kernel
theorem dX10_spreadSnow_76 : decode cX10_spreadSnow 76 = .ok (.aload_n 0, 1) := by decide +kernel
theorem dX10_spreadSnow_77 : decode cX10_spreadSnow 77 = .ok (.getfield 77, 3) := by decide +kernel
theorem dX10_spreadSnow_80 : decode cX10_spreadSnow 80 = .ok (.iload_n 3, 1) := by decide +kernel
theorem dX10_spreadSnow_81 : decode cX10_spreadSnow 81 = .ok (.iconst 0, 1) := by decide +kernel
theorem dX10_spreadSnow_82 : decode cX10_spreadSnow 82 = .ok (.iastore, 1) := by decide +kernel
theorem dX10_spreadSnow_83 : decode cX10_spreadSnow 83 = .ok (.iinc 3 1, 3) := by decide +kernel
theorem dX10_spreadSnow_86 : decode cX10_spreadSnow 86 = .ok (.goto (-16), 3) := by decide +kernel
theorem dX10_spreadSnow_89 : decode cX10_spreadSnow 89 = .ok (.iconst 0, 1) := by decide +kernel
theorem dX10_spreadSnow_90 : decode cX10_spreadSnow 90 = .ok (.istore_n 3, 1) := by decide +kernel
theorem dX10_spreadSnow_91 : decode cX10_spreadSnow 91 = .ok (.iload_n 3, 1) := by decide +kernel
theorem dX10_spreadSnow_92 : decode cX10_spreadSnow 92 = .ok (.bipush 10, 2) := by decide +kernel
theorem dX10_spreadSnow_94 : decode cX10_spreadSnow 94 = .ok (.if_icmp .ge 68, 3) := by decide +kernel
theorem dX10_spreadSnow_97 : decode cX10_spreadSnow 97 = .ok (.aload_n 0, 1) := by decide +kernel
theorem dX10_spreadSnow_98 : decode cX10_spreadSnow 98 = .ok (.getfield 80, 3) := by decide +kernel
theorem dX10_spreadSnow_101 : decode cX10_spreadSnow 101 = .ok (.iload_n 3, 1) := by decide +kernel
theorem dX10_spreadSnow_102 : decode cX10_spreadSnow 102 = .ok (.iaload, 1) := by decide +kernel
theorem dX10_spreadSnow_103 : decode cX10_spreadSnow 103 = .ok (.aload_n 0, 1) := by decide +kernel
theorem dX10_spreadSnow_104 : decode cX10_spreadSnow 104 = .ok (.getfield 114, 3) := by decide +kernel
theorem dX10_spreadSnow_107 : decode cX10_spreadSnow 107 = .ok (.imul, 1) := by decide +kernel
theorem dX10_spreadSnow_108 : decode cX10_spreadSnow 108 = .ok (.sipush 1000, 3) := by decide +kernel
theorem dX10_spreadSnow_111 : decode cX10_spreadSnow 111 = .ok (.idiv, 1) := by decide +kernel
theorem dX10_spreadSnow_112 : decode cX10_spreadSnow 112 = .ok (.istore 4, 2) := by decide +kernel
theorem dX10_spreadSnow_114 : decode cX10_spreadSnow 114 = .ok (.aload_n 0, 1) := by decide +kernel
theorem dX10_spreadSnow_115 : decode cX10_spreadSnow 115 = .ok (.getfield 77, 3) := by decide +kernel
theorem dX10_spreadSnow_118 : decode cX10_spreadSnow 118 = .ok (.bipush 9, 2) := by decide +kernel
theorem dX10_spreadSnow_120 : decode cX10_spreadSnow 120 = .ok (.iload_n 3, 1) := by decide +kernel
theorem dX10_spreadSnow_121 : decode cX10_spreadSnow 121 = .ok (.iconst 1, 1) := by decide +kernel
theorem dX10_spreadSnow_122 : decode cX10_spreadSnow 122 = .ok (.iadd, 1) := by decide +kernel
theorem dX10_spreadSnow_123 : decode cX10_spreadSnow 123 = .ok (.invokestatic 160, 3) := by decide +kernel
theorem dX10_spreadSnow_126 : decode cX10_spreadSnow 126 = .ok (.dup2, 1) := by decide +kernel
theorem dX10_spreadSnow_127 : decode cX10_spreadSnow 127 = .ok (.iaload, 1) := by decide +kernel
theorem dX10_spreadSnow_128 : decode cX10_spreadSnow 128 = .ok (.iload 4, 2) := by decide +kernel
theorem dX10_spreadSnow_130 : decode cX10_spreadSnow 130 = .ok (.iadd, 1) := by decide +kernel
theorem dX10_spreadSnow_131 : decode cX10_spreadSnow 131 = .ok (.iastore, 1) := by decide +kernel
theorem dX10_spreadSnow_132 : decode cX10_spreadSnow 132 = .ok (.aload_n 0, 1) := by decide +kernel
theorem dX10_spreadSnow_133 : decode cX10_spreadSnow 133 = .ok (.getfield 77, 3) := by decide +kernel
theorem dX10_spreadSnow_136 : decode cX10_spreadSnow 136 = .ok (.iconst 0, 1) := by decide +kernel
theorem dX10_spreadSnow_137 : decode cX10_spreadSnow 137 = .ok (.iload_n 3, 1) := by decide +kernel
theorem dX10_spreadSnow_138 : decode cX10_spreadSnow 138 = .ok (.iconst 1, 1) := by decide +kernel
theorem dX10_spreadSnow_139 : decode cX10_spreadSnow 139 = .ok (.isub, 1) := by decide +kernel
theorem dX10_spreadSnow_140 : decode cX10_spreadSnow 140 = .ok (.invokestatic 166, 3) := by decide +kernel
theorem dX10_spreadSnow_143 : decode cX10_spreadSnow 143 = .ok (.dup2, 1) := by decide +kernel
theorem dX10_spreadSnow_144 : decode cX10_spreadSnow 144 = .ok (.iaload, 1) := by decide +kernel
theorem dX10_spreadSnow_145 : decode cX10_spreadSnow 145 = .ok (.aload_n 0, 1) := by decide +kernel
theorem dX10_spreadSnow_146 : decode cX10_spreadSnow 146 = .ok (.getfield 80, 3) := by decide +kernel
theorem dX10_spreadSnow_149 : decode cX10_spreadSnow 149 = .ok (.iload_n 3, 1) := by decide +kernel
theorem dX10_spreadSnow_150 : decode cX10_spreadSnow 150 = .ok (.iaload, 1) := by decide +kernel
theorem dX10_spreadSnow_151 : decode cX10_spreadSnow 151 = .ok (.iload 4, 2) := by decide +kernel
theorem dX10_spreadSnow_153 : decode cX10_spreadSnow 153 = .ok (.isub, 1) := by decide +kernel
theorem dX10_spreadSnow_154 : decode cX10_spreadSnow 154 = .ok (.iadd, 1) := by decide +kernel
theorem dX10_spreadSnow_155 : decode cX10_spreadSnow 155 = .ok (.iastore, 1) := by decide +kernel
theorem dX10_spreadSnow_156 : decode cX10_spreadSnow 156 = .ok (.iinc 3 1, 3) := by decide +kernel
theorem dX10_spreadSnow_159 : decode cX10_spreadSnow 159 = .ok (.goto (-68), 3) := by decide +kernel
theorem dX10_spreadSnow_162 : decode cX10_spreadSnow 162 = .ok (.iinc 2 1, 3) := by decide +kernel
theorem dX10_spreadSnow_165 : decode cX10_spreadSnow 165 = .ok (.goto (-117), 3) := by decide +kernel
theorem dX10_spreadSnow_168 : decode cX10_spreadSnow 168 = .ok (.return_, 1) := by decide +kernel
theorem dX10_tellOfAll_0 : decode cX10_tellOfAll 0 = .ok (.iload_n 1, 1) := by decide +kernel
theorem dX10_tellOfAll_1 : decode cX10_tellOfAll 1 = .ok (.tableswitch 78 0 4 #[35, 46, 54, 62, 70], 35) := by decide +kernel
theorem dX10_tellOfAll_36 : decode cX10_tellOfAll 36 = .ok (.aload_n 0, 1) := by decide +kernel
theorem dX10_tellOfAll_37 : decode cX10_tellOfAll 37 = .ok (.getfield 12, 3) := by decide +kernel
theorem dX10_tellOfAll_40 : decode cX10_tellOfAll 40 = .ok (.iload_n 2, 1) := by decide +kernel
theorem dX10_tellOfAll_41 : decode cX10_tellOfAll 41 = .ok (.putfield 120, 3) := by decide +kernel
theorem dX10_tellOfAll_44 : decode cX10_tellOfAll 44 = .ok (.goto 43, 3) := by decide +kernel
theorem dX10_tellOfAll_47 : decode cX10_tellOfAll 47 = .ok (.aload_n 0, 1) := by decide +kernel
theorem dX10_tellOfAll_48 : decode cX10_tellOfAll 48 = .ok (.iload_n 2, 1) := by decide +kernel
theorem dX10_tellOfAll_49 : decode cX10_tellOfAll 49 = .ok (.putfield 114, 3) := by decide +kernel
theorem dX10_tellOfAll_52 : decode cX10_tellOfAll 52 = .ok (.goto 35, 3) := by decide +kernel
theorem dX10_tellOfAll_55 : decode cX10_tellOfAll 55 = .ok (.aload_n 0, 1) := by decide +kernel
theorem dX10_tellOfAll_56 : decode cX10_tellOfAll 56 = .ok (.iload_n 2, 1) := by decide +kernel
theorem dX10_tellOfAll_57 : decode cX10_tellOfAll 57 = .ok (.putfield 117, 3) := by decide +kernel
theorem dX10_tellOfAll_60 : decode cX10_tellOfAll 60 = .ok (.goto 27, 3) := by decide +kernel
theorem dX10_tellOfAll_63 : decode cX10_tellOfAll 63 = .ok (.aload_n 0, 1) := by decide +kernel
theorem dX10_tellOfAll_64 : decode cX10_tellOfAll 64 = .ok (.iload_n 2, 1) := by decide +kernel
theorem dX10_tellOfAll_65 : decode cX10_tellOfAll 65 = .ok (.putfield 67, 3) := by decide +kernel
theorem dX10_tellOfAll_68 : decode cX10_tellOfAll 68 = .ok (.goto 19, 3) := by decide +kernel
theorem dX10_tellOfAll_71 : decode cX10_tellOfAll 71 = .ok (.aload_n 0, 1) := by decide +kernel
theorem dX10_tellOfAll_72 : decode cX10_tellOfAll 72 = .ok (.iload_n 2, 1) := by decide +kernel
theorem dX10_tellOfAll_73 : decode cX10_tellOfAll 73 = .ok (.putfield 71, 3) := by decide +kernel
theorem dX10_tellOfAll_76 : decode cX10_tellOfAll 76 = .ok (.goto 11, 3) := by decide +kernel
theorem dX10_tellOfAll_79 : decode cX10_tellOfAll 79 = .ok (.aload_n 0, 1) := by decide +kernel
theorem dX10_tellOfAll_80 : decode cX10_tellOfAll 80 = .ok (.getfield 12, 3) := by decide +kernel
theorem dX10_tellOfAll_83 : decode cX10_tellOfAll 83 = .ok (.iload_n 2, 1) := by decide +kernel
theorem dX10_tellOfAll_84 : decode cX10_tellOfAll 84 = .ok (.putfield 123, 3) := by decide +kernel
theorem dX10_tellOfAll_87 : decode cX10_tellOfAll 87 = .ok (.return_, 1) := by decide +kernel
theorem dX10_tellOfHouse_0 : decode cX10_tellOfHouse 0 = .ok (.iload_n 1, 1) := by decide +kernel
theorem dX10_tellOfHouse_1 : decode cX10_tellOfHouse 1 = .ok (.tableswitch 83 6 9 #[31, 44, 57, 70], 31) := by decide +kernel
theorem dX10_tellOfHouse_32 : decode cX10_tellOfHouse 32 = .ok (.aload_n 0, 1) := by decide +kernel
theorem dX10_tellOfHouse_33 : decode cX10_tellOfHouse 33 = .ok (.getfield 21, 3) := by decide +kernel
theorem dX10_tellOfHouse_36 : decode cX10_tellOfHouse 36 = .ok (.getfield 126, 3) := by decide +kernel
theorem dX10_tellOfHouse_39 : decode cX10_tellOfHouse 39 = .ok (.iload_n 2, 1) := by decide +kernel
theorem dX10_tellOfHouse_40 : decode cX10_tellOfHouse 40 = .ok (.iload_n 3, 1) := by decide +kernel
theorem dX10_tellOfHouse_41 : decode cX10_tellOfHouse 41 = .ok (.iastore, 1) := by decide +kernel
theorem dX10_tellOfHouse_42 : decode cX10_tellOfHouse 42 = .ok (.goto 52, 3) := by decide +kernel
theorem dX10_tellOfHouse_45 : decode cX10_tellOfHouse 45 = .ok (.aload_n 0, 1) := by decide +kernel
theorem dX10_tellOfHouse_46 : decode cX10_tellOfHouse 46 = .ok (.getfield 12, 3) := by decide +kernel
theorem dX10_tellOfHouse_49 : decode cX10_tellOfHouse 49 = .ok (.getfield 129, 3) := by decide +kernel
theorem dX10_tellOfHouse_52 : decode cX10_tellOfHouse 52 = .ok (.iload_n 2, 1) := by decide +kernel
theorem dX10_tellOfHouse_53 : decode cX10_tellOfHouse 53 = .ok (.iload_n 3, 1) := by decide +kernel
theorem dX10_tellOfHouse_54 : decode cX10_tellOfHouse 54 = .ok (.iastore, 1) := by decide +kernel
theorem dX10_tellOfHouse_55 : decode cX10_tellOfHouse 55 = .ok (.goto 39, 3) := by decide +kernel
theorem dX10_tellOfHouse_58 : decode cX10_tellOfHouse 58 = .ok (.aload_n 0, 1) := by decide +kernel
theorem dX10_tellOfHouse_59 : decode cX10_tellOfHouse 59 = .ok (.getfield 12, 3) := by decide +kernel
theorem dX10_tellOfHouse_62 : decode cX10_tellOfHouse 62 = .ok (.getfield 132, 3) := by decide +kernel
theorem dX10_tellOfHouse_65 : decode cX10_tellOfHouse 65 = .ok (.iload_n 2, 1) := by decide +kernel
theorem dX10_tellOfHouse_66 : decode cX10_tellOfHouse 66 = .ok (.iload_n 3, 1) := by decide +kernel
theorem dX10_tellOfHouse_67 : decode cX10_tellOfHouse 67 = .ok (.iastore, 1) := by decide +kernel
theorem dX10_tellOfHouse_68 : decode cX10_tellOfHouse 68 = .ok (.goto 26, 3) := by decide +kernel
theorem dX10_tellOfHouse_71 : decode cX10_tellOfHouse 71 = .ok (.aload_n 0, 1) := by decide +kernel
theorem dX10_tellOfHouse_72 : decode cX10_tellOfHouse 72 = .ok (.getfield 21, 3) := by decide +kernel
theorem dX10_tellOfHouse_75 : decode cX10_tellOfHouse 75 = .ok (.getfield 135, 3) := by decide +kernel
theorem dX10_tellOfHouse_78 : decode cX10_tellOfHouse 78 = .ok (.iload_n 2, 1) := by decide +kernel
theorem dX10_tellOfHouse_79 : decode cX10_tellOfHouse 79 = .ok (.iload_n 3, 1) := by decide +kernel
theorem dX10_tellOfHouse_80 : decode cX10_tellOfHouse 80 = .ok (.iastore, 1) := by decide +kernel
theorem dX10_tellOfHouse_81 : decode cX10_tellOfHouse 81 = .ok (.goto 13, 3) := by decide +kernel
theorem dX10_tellOfHouse_84 : decode cX10_tellOfHouse 84 = .ok (.aload_n 0, 1) := by decide +kernel
theorem dX10_tellOfHouse_85 : decode cX10_tellOfHouse 85 = .ok (.getfield 21, 3) := by decide +kernel
theorem dX10_tellOfHouse_88 : decode cX10_tellOfHouse 88 = .ok (.getfield 138, 3) := by decide +kernel
theorem dX10_tellOfHouse_91 : decode cX10_tellOfHouse 91 = .ok (.iload_n 2, 1) := by decide +kernel
theorem dX10_tellOfHouse_92 : decode cX10_tellOfHouse 92 = .ok (.iload_n 3, 1) := by decide +kernel
theorem dX10_tellOfHouse_93 : decode cX10_tellOfHouse 93 = .ok (.iastore, 1) := by decide +kernel
theorem dX10_tellOfHouse_94 : decode cX10_tellOfHouse 94 = .ok (.return_, 1) := by decide +kernel
theorem dX10_turnsOf_0 : decode cX10_turnsOf 0 = .ok (.aload_n 0, 1) := by decide +kernel
theorem dX10_turnsOf_1 : decode cX10_turnsOf 1 = .ok (.aload_n 1, 1) := by decide +kernel
theorem dX10_turnsOf_2 : decode cX10_turnsOf 2 = .ok (.iload_n 2, 1) := by decide +kernel
theorem dX10_turnsOf_3 : decode cX10_turnsOf 3 = .ok (.invokevirtual 152, 3) := by decide +kernel
theorem dX10_turnsOf_6 : decode cX10_turnsOf 6 = .ok (.aload_n 0, 1) := by decide +kernel
theorem dX10_turnsOf_7 : decode cX10_turnsOf 7 = .ok (.getfield 42, 3) := by decide +kernel
theorem dX10_turnsOf_10 : decode cX10_turnsOf 10 = .ok (.aload_n 0, 1) := by decide +kernel
theorem dX10_turnsOf_11 : decode cX10_turnsOf 11 = .ok (.getfield 74, 3) := by decide +kernel
theorem dX10_turnsOf_14 : decode cX10_turnsOf 14 = .ok (.aload_n 0, 1) := by decide +kernel
theorem dX10_turnsOf_15 : decode cX10_turnsOf 15 = .ok (.getfield 74, 3) := by decide +kernel
theorem dX10_turnsOf_18 : decode cX10_turnsOf 18 = .ok (.iconst 2, 1) := by decide +kernel
theorem dX10_turnsOf_19 : decode cX10_turnsOf 19 = .ok (.iaload, 1) := by decide +kernel
theorem dX10_turnsOf_20 : decode cX10_turnsOf 20 = .ok (.invokevirtual 156, 3) := by decide +kernel
theorem dX10_turnsOf_23 : decode cX10_turnsOf 23 = .ok (.ireturn, 1) := by decide +kernel
theorem dX10_weighReaching_0 : decode cX10_weighReaching 0 = .ok (.aload_n 0, 1) := by decide +kernel
theorem dX10_weighReaching_1 : decode cX10_weighReaching 1 = .ok (.iload_n 2, 1) := by decide +kernel
theorem dX10_weighReaching_2 : decode cX10_weighReaching 2 = .ok (.invokevirtual 255, 3) := by decide +kernel
theorem dX10_weighReaching_5 : decode cX10_weighReaching 5 = .ok (.iconst 0, 1) := by decide +kernel
theorem dX10_weighReaching_6 : decode cX10_weighReaching 6 = .ok (.istore_n 3, 1) := by decide +kernel
theorem dX10_weighReaching_7 : decode cX10_weighReaching 7 = .ok (.iload_n 3, 1) := by decide +kernel
theorem dX10_weighReaching_8 : decode cX10_weighReaching 8 = .ok (.aload_n 0, 1) := by decide +kernel
theorem dX10_weighReaching_9 : decode cX10_weighReaching 9 = .ok (.getfield 21, 3) := by decide +kernel
theorem dX10_weighReaching_12 : decode cX10_weighReaching 12 = .ok (.getfield 145, 3) := by decide +kernel
theorem dX10_weighReaching_15 : decode cX10_weighReaching 15 = .ok (.if_icmp .ge 16, 3) := by decide +kernel
theorem dX10_weighReaching_18 : decode cX10_weighReaching 18 = .ok (.aload_n 0, 1) := by decide +kernel
theorem dX10_weighReaching_19 : decode cX10_weighReaching 19 = .ok (.getfield 83, 3) := by decide +kernel
theorem dX10_weighReaching_22 : decode cX10_weighReaching 22 = .ok (.iload_n 3, 1) := by decide +kernel
theorem dX10_weighReaching_23 : decode cX10_weighReaching 23 = .ok (.iconst 0, 1) := by decide +kernel
theorem dX10_weighReaching_24 : decode cX10_weighReaching 24 = .ok (.iastore, 1) := by decide +kernel
theorem dX10_weighReaching_25 : decode cX10_weighReaching 25 = .ok (.iinc 3 1, 3) := by decide +kernel
theorem dX10_weighReaching_28 : decode cX10_weighReaching 28 = .ok (.goto (-21), 3) := by decide +kernel
theorem dX10_weighReaching_31 : decode cX10_weighReaching 31 = .ok (.iconst 0, 1) := by decide +kernel
theorem dX10_weighReaching_32 : decode cX10_weighReaching 32 = .ok (.istore_n 3, 1) := by decide +kernel
theorem dX10_weighReaching_33 : decode cX10_weighReaching 33 = .ok (.iload_n 3, 1) := by decide +kernel
theorem dX10_weighReaching_34 : decode cX10_weighReaching 34 = .ok (.bipush 10, 2) := by decide +kernel
theorem dX10_weighReaching_36 : decode cX10_weighReaching 36 = .ok (.if_icmp .ge 66, 3) := by decide +kernel
theorem dX10_weighReaching_39 : decode cX10_weighReaching 39 = .ok (.aload_n 0, 1) := by decide +kernel
theorem dX10_weighReaching_40 : decode cX10_weighReaching 40 = .ok (.getfield 77, 3) := by decide +kernel
theorem dX10_weighReaching_43 : decode cX10_weighReaching 43 = .ok (.iload_n 3, 1) := by decide +kernel
theorem dX10_weighReaching_44 : decode cX10_weighReaching 44 = .ok (.iaload, 1) := by decide +kernel
theorem dX10_weighReaching_45 : decode cX10_weighReaching 45 = .ok (.ifCond .le 51, 3) := by decide +kernel
theorem dX10_weighReaching_48 : decode cX10_weighReaching 48 = .ok (.iconst 0, 1) := by decide +kernel
theorem dX10_weighReaching_49 : decode cX10_weighReaching 49 = .ok (.istore 4, 2) := by decide +kernel
theorem dX10_weighReaching_51 : decode cX10_weighReaching 51 = .ok (.iload 4, 2) := by decide +kernel
theorem dX10_weighReaching_53 : decode cX10_weighReaching 53 = .ok (.aload_n 0, 1) := by decide +kernel
theorem dX10_weighReaching_54 : decode cX10_weighReaching 54 = .ok (.getfield 21, 3) := by decide +kernel
theorem dX10_weighReaching_57 : decode cX10_weighReaching 57 = .ok (.getfield 145, 3) := by decide +kernel
theorem dX10_weighReaching_60 : decode cX10_weighReaching 60 = .ok (.if_icmp .ge 36, 3) := by decide +kernel
theorem dX10_weighReaching_63 : decode cX10_weighReaching 63 = .ok (.aload_n 0, 1) := by decide +kernel
theorem dX10_weighReaching_64 : decode cX10_weighReaching 64 = .ok (.iload_n 1, 1) := by decide +kernel
theorem dX10_weighReaching_65 : decode cX10_weighReaching 65 = .ok (.iload 4, 2) := by decide +kernel
theorem dX10_weighReaching_67 : decode cX10_weighReaching 67 = .ok (.iload_n 3, 1) := by decide +kernel
theorem dX10_weighReaching_68 : decode cX10_weighReaching 68 = .ok (.invokevirtual 148, 3) := by decide +kernel
theorem dX10_weighReaching_71 : decode cX10_weighReaching 71 = .ok (.ifCond .eq 19, 3) := by decide +kernel
theorem dX10_weighReaching_74 : decode cX10_weighReaching 74 = .ok (.aload_n 0, 1) := by decide +kernel
theorem dX10_weighReaching_75 : decode cX10_weighReaching 75 = .ok (.getfield 83, 3) := by decide +kernel
theorem dX10_weighReaching_78 : decode cX10_weighReaching 78 = .ok (.iload 4, 2) := by decide +kernel
theorem dX10_weighReaching_80 : decode cX10_weighReaching 80 = .ok (.dup2, 1) := by decide +kernel
theorem dX10_weighReaching_81 : decode cX10_weighReaching 81 = .ok (.iaload, 1) := by decide +kernel
theorem dX10_weighReaching_82 : decode cX10_weighReaching 82 = .ok (.aload_n 0, 1) := by decide +kernel
theorem dX10_weighReaching_83 : decode cX10_weighReaching 83 = .ok (.getfield 77, 3) := by decide +kernel
theorem dX10_weighReaching_86 : decode cX10_weighReaching 86 = .ok (.iload_n 3, 1) := by decide +kernel
theorem dX10_weighReaching_87 : decode cX10_weighReaching 87 = .ok (.iaload, 1) := by decide +kernel
theorem dX10_weighReaching_88 : decode cX10_weighReaching 88 = .ok (.iadd, 1) := by decide +kernel
theorem dX10_weighReaching_89 : decode cX10_weighReaching 89 = .ok (.iastore, 1) := by decide +kernel
theorem dX10_weighReaching_90 : decode cX10_weighReaching 90 = .ok (.iinc 4 1, 3) := by decide +kernel
theorem dX10_weighReaching_93 : decode cX10_weighReaching 93 = .ok (.goto (-42), 3) := by decide +kernel
theorem dX10_weighReaching_96 : decode cX10_weighReaching 96 = .ok (.iinc 3 1, 3) := by decide +kernel
theorem dX10_weighReaching_99 : decode cX10_weighReaching 99 = .ok (.goto (-66), 3) := by decide +kernel
theorem dX10_weighReaching_102 : decode cX10_weighReaching 102 = .ok (.return_, 1) := by decide +kernel
theorem dX10_writeLine_0 : decode cX10_writeLine 0 = .ok (.aload_n 1, 1) := by decide +kernel
theorem dX10_writeLine_1 : decode cX10_writeLine 1 = .ok (.getfield 249, 3) := by decide +kernel
theorem dX10_writeLine_4 : decode cX10_writeLine 4 = .ok (.ifCond .lt 13, 3) := by decide +kernel
theorem dX10_writeLine_7 : decode cX10_writeLine 7 = .ok (.aload_n 1, 1) := by decide +kernel
theorem dX10_writeLine_8 : decode cX10_writeLine 8 = .ok (.getfield 249, 3) := by decide +kernel
theorem dX10_writeLine_11 : decode cX10_writeLine 11 = .ok (.sipush 150, 3) := by decide +kernel
theorem dX10_writeLine_14 : decode cX10_writeLine 14 = .ok (.if_icmp .lt 4, 3) := by decide +kernel
theorem dX10_writeLine_17 : decode cX10_writeLine 17 = .ok (.return_, 1) := by decide +kernel
theorem dX10_writeLine_18 : decode cX10_writeLine 18 = .ok (.aload_n 1, 1) := by decide +kernel
theorem dX10_writeLine_19 : decode cX10_writeLine 19 = .ok (.getfield 249, 3) := by decide +kernel
theorem dX10_writeLine_22 : decode cX10_writeLine 22 = .ok (.bipush 6, 2) := by decide +kernel
theorem dX10_writeLine_24 : decode cX10_writeLine 24 = .ok (.imul, 1) := by decide +kernel
theorem dX10_writeLine_25 : decode cX10_writeLine 25 = .ok (.istore 5, 2) := by decide +kernel
theorem dX10_writeLine_27 : decode cX10_writeLine 27 = .ok (.aload_n 0, 1) := by decide +kernel
theorem dX10_writeLine_28 : decode cX10_writeLine 28 = .ok (.getfield 63, 3) := by decide +kernel
theorem dX10_writeLine_31 : decode cX10_writeLine 31 = .ok (.iload 5, 2) := by decide +kernel
theorem dX10_writeLine_33 : decode cX10_writeLine 33 = .ok (.aload_n 1, 1) := by decide +kernel
theorem dX10_writeLine_34 : decode cX10_writeLine 34 = .ok (.getfield 173, 3) := by decide +kernel
theorem dX10_writeLine_37 : decode cX10_writeLine 37 = .ok (.iastore, 1) := by decide +kernel
theorem dX10_writeLine_38 : decode cX10_writeLine 38 = .ok (.aload_n 0, 1) := by decide +kernel
theorem dX10_writeLine_39 : decode cX10_writeLine 39 = .ok (.getfield 63, 3) := by decide +kernel
theorem dX10_writeLine_42 : decode cX10_writeLine 42 = .ok (.iload 5, 2) := by decide +kernel
theorem dX10_writeLine_44 : decode cX10_writeLine 44 = .ok (.iconst 1, 1) := by decide +kernel
theorem dX10_writeLine_45 : decode cX10_writeLine 45 = .ok (.iadd, 1) := by decide +kernel
theorem dX10_writeLine_46 : decode cX10_writeLine 46 = .ok (.aload_n 1, 1) := by decide +kernel
theorem dX10_writeLine_47 : decode cX10_writeLine 47 = .ok (.getfield 123, 3) := by decide +kernel
theorem dX10_writeLine_50 : decode cX10_writeLine 50 = .ok (.iastore, 1) := by decide +kernel
theorem dX10_writeLine_51 : decode cX10_writeLine 51 = .ok (.aload_n 0, 1) := by decide +kernel
theorem dX10_writeLine_52 : decode cX10_writeLine 52 = .ok (.getfield 63, 3) := by decide +kernel
theorem dX10_writeLine_55 : decode cX10_writeLine 55 = .ok (.iload 5, 2) := by decide +kernel
theorem dX10_writeLine_57 : decode cX10_writeLine 57 = .ok (.iconst 2, 1) := by decide +kernel
theorem dX10_writeLine_58 : decode cX10_writeLine 58 = .ok (.iadd, 1) := by decide +kernel
theorem dX10_writeLine_59 : decode cX10_writeLine 59 = .ok (.iload_n 2, 1) := by decide +kernel
theorem dX10_writeLine_60 : decode cX10_writeLine 60 = .ok (.iastore, 1) := by decide +kernel
theorem dX10_writeLine_61 : decode cX10_writeLine 61 = .ok (.aload_n 0, 1) := by decide +kernel
theorem dX10_writeLine_62 : decode cX10_writeLine 62 = .ok (.getfield 63, 3) := by decide +kernel
theorem dX10_writeLine_65 : decode cX10_writeLine 65 = .ok (.iload 5, 2) := by decide +kernel
theorem dX10_writeLine_67 : decode cX10_writeLine 67 = .ok (.iconst 3, 1) := by decide +kernel
theorem dX10_writeLine_68 : decode cX10_writeLine 68 = .ok (.iadd, 1) := by decide +kernel
theorem dX10_writeLine_69 : decode cX10_writeLine 69 = .ok (.iload_n 3, 1) := by decide +kernel
theorem dX10_writeLine_70 : decode cX10_writeLine 70 = .ok (.iastore, 1) := by decide +kernel
theorem dX10_writeLine_71 : decode cX10_writeLine 71 = .ok (.aload_n 0, 1) := by decide +kernel
theorem dX10_writeLine_72 : decode cX10_writeLine 72 = .ok (.getfield 63, 3) := by decide +kernel
theorem dX10_writeLine_75 : decode cX10_writeLine 75 = .ok (.iload 5, 2) := by decide +kernel
theorem dX10_writeLine_77 : decode cX10_writeLine 77 = .ok (.iconst 4, 1) := by decide +kernel
theorem dX10_writeLine_78 : decode cX10_writeLine 78 = .ok (.iadd, 1) := by decide +kernel
theorem dX10_writeLine_79 : decode cX10_writeLine 79 = .ok (.aload_n 1, 1) := by decide +kernel
theorem dX10_writeLine_80 : decode cX10_writeLine 80 = .ok (.getfield 120, 3) := by decide +kernel
theorem dX10_writeLine_83 : decode cX10_writeLine 83 = .ok (.iastore, 1) := by decide +kernel
theorem dX10_writeLine_84 : decode cX10_writeLine 84 = .ok (.aload_n 0, 1) := by decide +kernel
theorem dX10_writeLine_85 : decode cX10_writeLine 85 = .ok (.getfield 63, 3) := by decide +kernel
theorem dX10_writeLine_88 : decode cX10_writeLine 88 = .ok (.iload 5, 2) := by decide +kernel
theorem dX10_writeLine_90 : decode cX10_writeLine 90 = .ok (.iconst 5, 1) := by decide +kernel
theorem dX10_writeLine_91 : decode cX10_writeLine 91 = .ok (.iadd, 1) := by decide +kernel
theorem dX10_writeLine_92 : decode cX10_writeLine 92 = .ok (.iload 4, 2) := by decide +kernel
theorem dX10_writeLine_94 : decode cX10_writeLine 94 = .ok (.iastore, 1) := by decide +kernel
theorem dX10_writeLine_95 : decode cX10_writeLine 95 = .ok (.aload_n 1, 1) := by decide +kernel
theorem dX10_writeLine_96 : decode cX10_writeLine 96 = .ok (.dup, 1) := by decide +kernel
theorem dX10_writeLine_97 : decode cX10_writeLine 97 = .ok (.getfield 249, 3) := by decide +kernel
theorem dX10_writeLine_100 : decode cX10_writeLine 100 = .ok (.iconst 1, 1) := by decide +kernel
theorem dX10_writeLine_101 : decode cX10_writeLine 101 = .ok (.iadd, 1) := by decide +kernel
theorem dX10_writeLine_102 : decode cX10_writeLine 102 = .ok (.putfield 249, 3) := by decide +kernel
theorem dX10_writeLine_105 : decode cX10_writeLine 105 = .ok (.return_, 1) := by decide +kernel
theorem dX9_fill_0 : decode cX9_fill 0 = .ok (.iconst 0, 1) := by decide +kernel
theorem dX9_fill_1 : decode cX9_fill 1 = .ok (.istore 6, 2) := by decide +kernel
theorem dX9_fill_3 : decode cX9_fill 3 = .ok (.iload 6, 2) := by decide +kernel
theorem dX9_fill_5 : decode cX9_fill 5 = .ok (.iload 5, 2) := by decide +kernel
theorem dX9_fill_7 : decode cX9_fill 7 = .ok (.if_icmp .ge 98, 3) := by decide +kernel
theorem dX9_fill_10 : decode cX9_fill 10 = .ok (.iload_n 3, 1) := by decide +kernel
theorem dX9_fill_11 : decode cX9_fill 11 = .ok (.iconst (-1), 1) := by decide +kernel
theorem dX9_fill_12 : decode cX9_fill 12 = .ok (.if_icmp .ne 7, 3) := by decide +kernel
theorem dX9_fill_15 : decode cX9_fill 15 = .ok (.lconst 1, 1) := by decide +kernel
theorem dX9_fill_16 : decode cX9_fill 16 = .ok (.goto 4, 3) := by decide +kernel
theorem dX9_fill_19 : decode cX9_fill 19 = .ok (.lconst 0, 1) := by decide +kernel
theorem dX9_fill_20 : decode cX9_fill 20 = .ok (.lstore 7, 2) := by decide +kernel
theorem dX9_fill_22 : decode cX9_fill 22 = .ok (.iconst 0, 1) := by decide +kernel
theorem dX9_fill_23 : decode cX9_fill 23 = .ok (.istore 9, 2) := by decide +kernel
theorem dX9_fill_25 : decode cX9_fill 25 = .ok (.iload 9, 2) := by decide +kernel
theorem dX9_fill_27 : decode cX9_fill 27 = .ok (.iload 5, 2) := by decide +kernel
theorem dX9_fill_29 : decode cX9_fill 29 = .ok (.if_icmp .ge 44, 3) := by decide +kernel
theorem dX9_fill_32 : decode cX9_fill 32 = .ok (.iload_n 3, 1) := by decide +kernel
theorem dX9_fill_33 : decode cX9_fill 33 = .ok (.iconst (-1), 1) := by decide +kernel
theorem dX9_fill_34 : decode cX9_fill 34 = .ok (.if_icmp .eq 39, 3) := by decide +kernel
theorem dX9_fill_37 : decode cX9_fill 37 = .ok (.aload_n 0, 1) := by decide +kernel
theorem dX9_fill_38 : decode cX9_fill 38 = .ok (.getfield 18, 3) := by decide +kernel
theorem dX9_fill_41 : decode cX9_fill 41 = .ok (.iload 6, 2) := by decide +kernel
theorem dX9_fill_43 : decode cX9_fill 43 = .ok (.iaload, 1) := by decide +kernel
theorem dX9_fill_44 : decode cX9_fill 44 = .ok (.iload 9, 2) := by decide +kernel
theorem dX9_fill_46 : decode cX9_fill 46 = .ok (.ishr, 1) := by decide +kernel
theorem dX9_fill_47 : decode cX9_fill 47 = .ok (.iconst 1, 1) := by decide +kernel
theorem dX9_fill_48 : decode cX9_fill 48 = .ok (.iand, 1) := by decide +kernel
theorem dX9_fill_49 : decode cX9_fill 49 = .ok (.iconst 1, 1) := by decide +kernel
theorem dX9_fill_50 : decode cX9_fill 50 = .ok (.if_icmp .ne 17, 3) := by decide +kernel
theorem dX9_fill_53 : decode cX9_fill 53 = .ok (.lload 7, 2) := by decide +kernel
theorem dX9_fill_55 : decode cX9_fill 55 = .ok (.aload_n 1, 1) := by decide +kernel
theorem dX9_fill_56 : decode cX9_fill 56 = .ok (.iload_n 3, 1) := by decide +kernel
theorem dX9_fill_57 : decode cX9_fill 57 = .ok (.bipush 10, 2) := by decide +kernel
theorem dX9_fill_59 : decode cX9_fill 59 = .ok (.imul, 1) := by decide +kernel
theorem dX9_fill_60 : decode cX9_fill 60 = .ok (.iload 9, 2) := by decide +kernel
theorem dX9_fill_62 : decode cX9_fill 62 = .ok (.iadd, 1) := by decide +kernel
theorem dX9_fill_63 : decode cX9_fill 63 = .ok (.laload, 1) := by decide +kernel
theorem dX9_fill_64 : decode cX9_fill 64 = .ok (.ladd, 1) := by decide +kernel
theorem dX9_fill_65 : decode cX9_fill 65 = .ok (.lstore 7, 2) := by decide +kernel
theorem dX9_fill_67 : decode cX9_fill 67 = .ok (.iinc 9 1, 3) := by decide +kernel
theorem dX9_fill_70 : decode cX9_fill 70 = .ok (.goto (-45), 3) := by decide +kernel
theorem dX9_fill_73 : decode cX9_fill 73 = .ok (.aload_n 1, 1) := by decide +kernel
theorem dX9_fill_74 : decode cX9_fill 74 = .ok (.iload_n 2, 1) := by decide +kernel
theorem dX9_fill_75 : decode cX9_fill 75 = .ok (.bipush 10, 2) := by decide +kernel
theorem dX9_fill_77 : decode cX9_fill 77 = .ok (.imul, 1) := by decide +kernel
theorem dX9_fill_78 : decode cX9_fill 78 = .ok (.iload 6, 2) := by decide +kernel
theorem dX9_fill_80 : decode cX9_fill 80 = .ok (.iadd, 1) := by decide +kernel
theorem dX9_fill_81 : decode cX9_fill 81 = .ok (.iload 4, 2) := by decide +kernel
theorem dX9_fill_83 : decode cX9_fill 83 = .ok (.iload 6, 2) := by decide +kernel
theorem dX9_fill_85 : decode cX9_fill 85 = .ok (.ishr, 1) := by decide +kernel
theorem dX9_fill_86 : decode cX9_fill 86 = .ok (.iconst 1, 1) := by decide +kernel
theorem dX9_fill_87 : decode cX9_fill 87 = .ok (.iand, 1) := by decide +kernel
theorem dX9_fill_88 : decode cX9_fill 88 = .ok (.iconst 1, 1) := by decide +kernel
theorem dX9_fill_89 : decode cX9_fill 89 = .ok (.if_icmp .ne 8, 3) := by decide +kernel
theorem dX9_fill_92 : decode cX9_fill 92 = .ok (.lload 7, 2) := by decide +kernel
theorem dX9_fill_94 : decode cX9_fill 94 = .ok (.goto 4, 3) := by decide +kernel
theorem dX9_fill_97 : decode cX9_fill 97 = .ok (.lconst 0, 1) := by decide +kernel
theorem dX9_fill_98 : decode cX9_fill 98 = .ok (.lastore, 1) := by decide +kernel
theorem dX9_fill_99 : decode cX9_fill 99 = .ok (.iinc 6 1, 3) := by decide +kernel
theorem dX9_fill_102 : decode cX9_fill 102 = .ok (.goto (-99), 3) := by decide +kernel
theorem dX9_fill_105 : decode cX9_fill 105 = .ok (.return_, 1) := by decide +kernel
theorem dX9_follow_0 : decode cX9_follow 0 = .ok (.aload_n 1, 1) := by decide +kernel
theorem dX9_follow_1 : decode cX9_follow 1 = .ok (.getfield 22, 3) := by decide +kernel
theorem dX9_follow_4 : decode cX9_follow 4 = .ok (.getfield 28, 3) := by decide +kernel
theorem dX9_follow_7 : decode cX9_follow 7 = .ok (.istore_n 3, 1) := by decide +kernel
theorem dX9_follow_8 : decode cX9_follow 8 = .ok (.iconst 0, 1) := by decide +kernel
theorem dX9_follow_9 : decode cX9_follow 9 = .ok (.istore 4, 2) := by decide +kernel
theorem dX9_follow_11 : decode cX9_follow 11 = .ok (.iload 4, 2) := by decide +kernel
theorem dX9_follow_13 : decode cX9_follow 13 = .ok (.iload_n 3, 1) := by decide +kernel
theorem dX9_follow_14 : decode cX9_follow 14 = .ok (.if_icmp .ge 22, 3) := by decide +kernel
theorem dX9_follow_17 : decode cX9_follow 17 = .ok (.aload_n 0, 1) := by decide +kernel
theorem dX9_follow_18 : decode cX9_follow 18 = .ok (.getfield 18, 3) := by decide +kernel
theorem dX9_follow_21 : decode cX9_follow 21 = .ok (.iload 4, 2) := by decide +kernel
theorem dX9_follow_23 : decode cX9_follow 23 = .ok (.aload_n 1, 1) := by decide +kernel
theorem dX9_follow_24 : decode cX9_follow 24 = .ok (.iload 4, 2) := by decide +kernel
theorem dX9_follow_26 : decode cX9_follow 26 = .ok (.invokevirtual 34, 3) := by decide +kernel
theorem dX9_follow_29 : decode cX9_follow 29 = .ok (.iastore, 1) := by decide +kernel
theorem dX9_follow_30 : decode cX9_follow 30 = .ok (.iinc 4 1, 3) := by decide +kernel
theorem dX9_follow_33 : decode cX9_follow 33 = .ok (.goto (-22), 3) := by decide +kernel
theorem dX9_follow_36 : decode cX9_follow 36 = .ok (.iconst 0, 1) := by decide +kernel
theorem dX9_follow_37 : decode cX9_follow 37 = .ok (.istore 4, 2) := by decide +kernel
theorem dX9_follow_39 : decode cX9_follow 39 = .ok (.iload 4, 2) := by decide +kernel
theorem dX9_follow_41 : decode cX9_follow 41 = .ok (.iload_n 2, 1) := by decide +kernel
theorem dX9_follow_42 : decode cX9_follow 42 = .ok (.if_icmp .ge 44, 3) := by decide +kernel
theorem dX9_follow_45 : decode cX9_follow 45 = .ok (.aload_n 1, 1) := by decide +kernel
theorem dX9_follow_46 : decode cX9_follow 46 = .ok (.getfield 38, 3) := by decide +kernel
theorem dX9_follow_49 : decode cX9_follow 49 = .ok (.iload 4, 2) := by decide +kernel
theorem dX9_follow_51 : decode cX9_follow 51 = .ok (.aload_n 1, 1) := by decide +kernel
theorem dX9_follow_52 : decode cX9_follow 52 = .ok (.getfield 22, 3) := by decide +kernel
theorem dX9_follow_55 : decode cX9_follow 55 = .ok (.invokevirtual 42, 3) := by decide +kernel
theorem dX9_follow_58 : decode cX9_follow 58 = .ok (.invokevirtual 46, 3) := by decide +kernel
theorem dX9_follow_61 : decode cX9_follow 61 = .ok (.istore 5, 2) := by decide +kernel
theorem dX9_follow_63 : decode cX9_follow 63 = .ok (.aload_n 0, 1) := by decide +kernel
theorem dX9_follow_64 : decode cX9_follow 64 = .ok (.aload_n 0, 1) := by decide +kernel
theorem dX9_follow_65 : decode cX9_follow 65 = .ok (.getfield 9, 3) := by decide +kernel
theorem dX9_follow_68 : decode cX9_follow 68 = .ok (.iload 4, 2) := by decide +kernel
theorem dX9_follow_70 : decode cX9_follow 70 = .ok (.iload 4, 2) := by decide +kernel
theorem dX9_follow_72 : decode cX9_follow 72 = .ok (.iconst 1, 1) := by decide +kernel
theorem dX9_follow_73 : decode cX9_follow 73 = .ok (.isub, 1) := by decide +kernel
theorem dX9_follow_74 : decode cX9_follow 74 = .ok (.iload 5, 2) := by decide +kernel
theorem dX9_follow_76 : decode cX9_follow 76 = .ok (.iload_n 3, 1) := by decide +kernel
theorem dX9_follow_77 : decode cX9_follow 77 = .ok (.invokevirtual 52, 3) := by decide +kernel
theorem dX9_follow_80 : decode cX9_follow 80 = .ok (.iinc 4 1, 3) := by decide +kernel
theorem dX9_follow_83 : decode cX9_follow 83 = .ok (.goto (-44), 3) := by decide +kernel
theorem dX9_follow_86 : decode cX9_follow 86 = .ok (.iload_n 2, 1) := by decide +kernel
theorem dX9_follow_87 : decode cX9_follow 87 = .ok (.iconst 1, 1) := by decide +kernel
theorem dX9_follow_88 : decode cX9_follow 88 = .ok (.isub, 1) := by decide +kernel
theorem dX9_follow_89 : decode cX9_follow 89 = .ok (.istore 4, 2) := by decide +kernel
theorem dX9_follow_91 : decode cX9_follow 91 = .ok (.iload 4, 2) := by decide +kernel
theorem dX9_follow_93 : decode cX9_follow 93 = .ok (.ifCond .lt 56, 3) := by decide +kernel
theorem dX9_follow_96 : decode cX9_follow 96 = .ok (.aload_n 1, 1) := by decide +kernel
theorem dX9_follow_97 : decode cX9_follow 97 = .ok (.getfield 38, 3) := by decide +kernel
theorem dX9_follow_100 : decode cX9_follow 100 = .ok (.iload 4, 2) := by decide +kernel
theorem dX9_follow_102 : decode cX9_follow 102 = .ok (.aload_n 1, 1) := by decide +kernel
theorem dX9_follow_103 : decode cX9_follow 103 = .ok (.getfield 22, 3) := by decide +kernel
theorem dX9_follow_106 : decode cX9_follow 106 = .ok (.invokevirtual 42, 3) := by decide +kernel
theorem dX9_follow_109 : decode cX9_follow 109 = .ok (.invokevirtual 46, 3) := by decide +kernel
theorem dX9_follow_112 : decode cX9_follow 112 = .ok (.istore 5, 2) := by decide +kernel
theorem dX9_follow_114 : decode cX9_follow 114 = .ok (.aload_n 0, 1) := by decide +kernel
theorem dX9_follow_115 : decode cX9_follow 115 = .ok (.aload_n 0, 1) := by decide +kernel
theorem dX9_follow_116 : decode cX9_follow 116 = .ok (.getfield 15, 3) := by decide +kernel
theorem dX9_follow_119 : decode cX9_follow 119 = .ok (.iload 4, 2) := by decide +kernel
theorem dX9_follow_121 : decode cX9_follow 121 = .ok (.iload 4, 2) := by decide +kernel
theorem dX9_follow_123 : decode cX9_follow 123 = .ok (.iconst 1, 1) := by decide +kernel
theorem dX9_follow_124 : decode cX9_follow 124 = .ok (.iadd, 1) := by decide +kernel
theorem dX9_follow_125 : decode cX9_follow 125 = .ok (.iload_n 2, 1) := by decide +kernel
theorem dX9_follow_126 : decode cX9_follow 126 = .ok (.if_icmp .ge 10, 3) := by decide +kernel
theorem dX9_follow_129 : decode cX9_follow 129 = .ok (.iload 4, 2) := by decide +kernel
theorem dX9_follow_131 : decode cX9_follow 131 = .ok (.iconst 1, 1) := by decide +kernel
theorem dX9_follow_132 : decode cX9_follow 132 = .ok (.iadd, 1) := by decide +kernel
theorem dX9_follow_133 : decode cX9_follow 133 = .ok (.goto 4, 3) := by decide +kernel
theorem dX9_follow_136 : decode cX9_follow 136 = .ok (.iconst (-1), 1) := by decide +kernel
theorem dX9_follow_137 : decode cX9_follow 137 = .ok (.iload 5, 2) := by decide +kernel
theorem dX9_follow_139 : decode cX9_follow 139 = .ok (.iload_n 3, 1) := by decide +kernel
theorem dX9_follow_140 : decode cX9_follow 140 = .ok (.invokevirtual 52, 3) := by decide +kernel
theorem dX9_follow_143 : decode cX9_follow 143 = .ok (.iinc 4 (-1), 3) := by decide +kernel
theorem dX9_follow_146 : decode cX9_follow 146 = .ok (.goto (-55), 3) := by decide +kernel
theorem dX9_follow_149 : decode cX9_follow 149 = .ok (.lconst 0, 1) := by decide +kernel
theorem dX9_follow_150 : decode cX9_follow 150 = .ok (.lstore 4, 2) := by decide +kernel
theorem dX9_follow_152 : decode cX9_follow 152 = .ok (.iconst 0, 1) := by decide +kernel
theorem dX9_follow_153 : decode cX9_follow 153 = .ok (.istore 6, 2) := by decide +kernel
theorem dX9_follow_155 : decode cX9_follow 155 = .ok (.iload 6, 2) := by decide +kernel
theorem dX9_follow_157 : decode cX9_follow 157 = .ok (.iload_n 3, 1) := by decide +kernel
theorem dX9_follow_158 : decode cX9_follow 158 = .ok (.if_icmp .ge 21, 3) := by decide +kernel
theorem dX9_follow_161 : decode cX9_follow 161 = .ok (.lload 4, 2) := by decide +kernel
theorem dX9_follow_163 : decode cX9_follow 163 = .ok (.aload_n 0, 1) := by decide +kernel
theorem dX9_follow_164 : decode cX9_follow 164 = .ok (.getfield 15, 3) := by decide +kernel
theorem dX9_follow_167 : decode cX9_follow 167 = .ok (.iload 6, 2) := by decide +kernel
theorem dX9_follow_169 : decode cX9_follow 169 = .ok (.laload, 1) := by decide +kernel
theorem dX9_follow_170 : decode cX9_follow 170 = .ok (.ladd, 1) := by decide +kernel
theorem dX9_follow_171 : decode cX9_follow 171 = .ok (.lstore 4, 2) := by decide +kernel
theorem dX9_follow_173 : decode cX9_follow 173 = .ok (.iinc 6 1, 3) := by decide +kernel
theorem dX9_follow_176 : decode cX9_follow 176 = .ok (.goto (-21), 3) := by decide +kernel
theorem dX9_follow_179 : decode cX9_follow 179 = .ok (.lload 4, 2) := by decide +kernel
theorem dX9_follow_181 : decode cX9_follow 181 = .ok (.lreturn, 1) := by decide +kernel
theorem dX9_question_0 : decode cX9_question 0 = .ok (.iconst 0, 1) := by decide +kernel
theorem dX9_question_1 : decode cX9_question 1 = .ok (.istore 5, 2) := by decide +kernel
theorem dX9_question_3 : decode cX9_question 3 = .ok (.lload_n 1, 1) := by decide +kernel
theorem dX9_question_4 : decode cX9_question 4 = .ok (.lstore 6, 2) := by decide +kernel
theorem dX9_question_6 : decode cX9_question 6 = .ok (.iconst 0, 1) := by decide +kernel
theorem dX9_question_7 : decode cX9_question 7 = .ok (.istore 8, 2) := by decide +kernel
theorem dX9_question_9 : decode cX9_question 9 = .ok (.iload 8, 2) := by decide +kernel
theorem dX9_question_11 : decode cX9_question 11 = .ok (.iload_n 3, 1) := by decide +kernel
theorem dX9_question_12 : decode cX9_question 12 = .ok (.if_icmp .ge 68, 3) := by decide +kernel
theorem dX9_question_15 : decode cX9_question 15 = .ok (.iconst 0, 1) := by decide +kernel
theorem dX9_question_16 : decode cX9_question 16 = .ok (.istore 9, 2) := by decide +kernel
theorem dX9_question_18 : decode cX9_question 18 = .ok (.iload 9, 2) := by decide +kernel
theorem dX9_question_20 : decode cX9_question 20 = .ok (.iload 4, 2) := by decide +kernel
theorem dX9_question_22 : decode cX9_question 22 = .ok (.if_icmp .ge 52, 3) := by decide +kernel
theorem dX9_question_25 : decode cX9_question 25 = .ok (.aload_n 0, 1) := by decide +kernel
theorem dX9_question_26 : decode cX9_question 26 = .ok (.iload 8, 2) := by decide +kernel
theorem dX9_question_28 : decode cX9_question 28 = .ok (.iload 9, 2) := by decide +kernel
theorem dX9_question_30 : decode cX9_question 30 = .ok (.invokevirtual 56, 3) := by decide +kernel
theorem dX9_question_33 : decode cX9_question 33 = .ok (.lstore 10, 2) := by decide +kernel
theorem dX9_question_35 : decode cX9_question 35 = .ok (.lload 10, 2) := by decide +kernel
theorem dX9_question_37 : decode cX9_question 37 = .ok (.lload_n 1, 1) := by decide +kernel
theorem dX9_question_38 : decode cX9_question 38 = .ok (.lload 10, 2) := by decide +kernel
theorem dX9_question_40 : decode cX9_question 40 = .ok (.lsub, 1) := by decide +kernel
theorem dX9_question_41 : decode cX9_question 41 = .ok (.invokestatic 60, 3) := by decide +kernel
theorem dX9_question_44 : decode cX9_question 44 = .ok (.lstore 12, 2) := by decide +kernel
theorem dX9_question_46 : decode cX9_question 46 = .ok (.lload 12, 2) := by decide +kernel
theorem dX9_question_48 : decode cX9_question 48 = .ok (.lload 6, 2) := by decide +kernel
theorem dX9_question_50 : decode cX9_question 50 = .ok (.lcmp, 1) := by decide +kernel
theorem dX9_question_51 : decode cX9_question 51 = .ok (.ifCond .ge 17, 3) := by decide +kernel
theorem dX9_question_54 : decode cX9_question 54 = .ok (.lload 12, 2) := by decide +kernel
theorem dX9_question_56 : decode cX9_question 56 = .ok (.lstore 6, 2) := by decide +kernel
theorem dX9_question_58 : decode cX9_question 58 = .ok (.iload 8, 2) := by decide +kernel
theorem dX9_question_60 : decode cX9_question 60 = .ok (.bipush 10, 2) := by decide +kernel
theorem dX9_question_62 : decode cX9_question 62 = .ok (.imul, 1) := by decide +kernel
theorem dX9_question_63 : decode cX9_question 63 = .ok (.iload 9, 2) := by decide +kernel
theorem dX9_question_65 : decode cX9_question 65 = .ok (.iadd, 1) := by decide +kernel
theorem dX9_question_66 : decode cX9_question 66 = .ok (.istore 5, 2) := by decide +kernel
theorem dX9_question_68 : decode cX9_question 68 = .ok (.iinc 9 1, 3) := by decide +kernel
theorem dX9_question_71 : decode cX9_question 71 = .ok (.goto (-53), 3) := by decide +kernel
theorem dX9_question_74 : decode cX9_question 74 = .ok (.iinc 8 1, 3) := by decide +kernel
theorem dX9_question_77 : decode cX9_question 77 = .ok (.goto (-68), 3) := by decide +kernel
theorem dX9_question_80 : decode cX9_question 80 = .ok (.iload 5, 2) := by decide +kernel
theorem dX9_question_82 : decode cX9_question 82 = .ok (.ireturn, 1) := by decide +kernel
theorem dX9_through_0 : decode cX9_through 0 = .ok (.iload_n 1, 1) := by decide +kernel
theorem dX9_through_1 : decode cX9_through 1 = .ok (.bipush 10, 2) := by decide +kernel
theorem dX9_through_3 : decode cX9_through 3 = .ok (.imul, 1) := by decide +kernel
theorem dX9_through_4 : decode cX9_through 4 = .ok (.iload_n 2, 1) := by decide +kernel
theorem dX9_through_5 : decode cX9_through 5 = .ok (.iadd, 1) := by decide +kernel
theorem dX9_through_6 : decode cX9_through 6 = .ok (.istore_n 3, 1) := by decide +kernel
theorem dX9_through_7 : decode cX9_through 7 = .ok (.aload_n 0, 1) := by decide +kernel
theorem dX9_through_8 : decode cX9_through 8 = .ok (.getfield 9, 3) := by decide +kernel
theorem dX9_through_11 : decode cX9_through 11 = .ok (.iload_n 3, 1) := by decide +kernel
theorem dX9_through_12 : decode cX9_through 12 = .ok (.laload, 1) := by decide +kernel
theorem dX9_through_13 : decode cX9_through 13 = .ok (.aload_n 0, 1) := by decide +kernel
theorem dX9_through_14 : decode cX9_through 14 = .ok (.getfield 15, 3) := by decide +kernel
theorem dX9_through_17 : decode cX9_through 17 = .ok (.iload_n 3, 1) := by decide +kernel
theorem dX9_through_18 : decode cX9_through 18 = .ok (.laload, 1) := by decide +kernel
theorem dX9_through_19 : decode cX9_through 19 = .ok (.lmul, 1) := by decide +kernel
theorem dX9_through_20 : decode cX9_through 20 = .ok (.lreturn, 1) := by decide +kernel
theorem q_1008 : Cond.methodLink RX10 180 yX10_nextHouse ∈ GW := inG 1008 (by decide +kernel) (by decide +kernel)
theorem q_1010 : Cond.instanceMethod yX10_nextHouse ∈ GW := inG 1010 (by decide +kernel) (by decide +kernel)
theorem q_1011 : Cond.code yX10_nextHouse cX10_nextHouse 6 (some .int) ∈ GW := inG 1011 (by decide +kernel) (by decide +kernel)
theorem q_1012 : Cond.methodLink RX10 148 yX10_isReached ∈ GW := inG 1012 (by decide +kernel) (by decide +kernel)
theorem q_1013 : Cond.instanceMethod yX10_isReached ∈ GW := inG 1013 (by decide +kernel) (by decide +kernel)
theorem q_1014 : Cond.selects RX10 yX10_isReached yX10_isReached ∈ GW := inG 1014 (by decide +kernel) (by decide +kernel)
theorem q_1015 : Cond.code yX10_isReached cX10_isReached 5 (some .boolean) ∈ GW := inG 1015 (by decide +kernel) (by decide +kernel)
theorem q_1016 : Cond.methodLink RX10 141 yX5_apart ∈ GW := inG 1016 (by decide +kernel) (by decide +kernel)
theorem q_1017 : Cond.instanceMethod yX5_apart ∈ GW := inG 1017 (by decide +kernel) (by decide +kernel)
theorem q_1018 : Cond.selects RX5 yX5_apart yX5_apart ∈ GW := inG 1018 (by decide +kernel) (by decide +kernel)
theorem q_1019 : Cond.code yX5_apart cX5_apart 4 (some .int) ∈ GW := inG 1019 (by decide +kernel) (by decide +kernel)
theorem q_1028 : Cond.methodLink RX10 217 yX10_turnsOf ∈ GW := inG 1028 (by decide +kernel) (by decide +kernel)
theorem q_1029 : Cond.instanceMethod yX10_turnsOf ∈ GW := inG 1029 (by decide +kernel) (by decide +kernel)
theorem q_1030 : Cond.selects RX10 yX10_turnsOf yX10_turnsOf ∈ GW := inG 1030 (by decide +kernel) (by decide +kernel)
theorem q_1031 : Cond.code yX10_turnsOf cX10_turnsOf 3 (some .int) ∈ GW := inG 1031 (by decide +kernel) (by decide +kernel)
theorem q_1032 : Cond.methodLink RX10 152 yX10_readHouse ∈ GW := inG 1032 (by decide +kernel) (by decide +kernel)
theorem q_1034 : Cond.instanceMethod yX10_readHouse ∈ GW := inG 1034 (by decide +kernel) (by decide +kernel)
theorem q_1035 : Cond.code yX10_readHouse cX10_readHouse 4 none ∈ GW := inG 1035 (by decide +kernel) (by decide +kernel)
theorem q_1036 : Cond.methodLink RX10 169 yX4_waited ∈ GW := inG 1036 (by decide +kernel) (by decide +kernel)
theorem q_1037 : Cond.instanceMethod yX4_waited ∈ GW := inG 1037 (by decide +kernel) (by decide +kernel)
theorem q_1038 : Cond.selects RX4 yX4_waited yX4_waited ∈ GW := inG 1038 (by decide +kernel) (by decide +kernel)
theorem q_1039 : Cond.code yX4_waited cX4_waited 2 (some .int) ∈ GW := inG 1039 (by decide +kernel) (by decide +kernel)
theorem q_1040 : Cond.methodLink RX10 176 yX3_openWorth ∈ GW := inG 1040 (by decide +kernel) (by decide +kernel)
theorem q_1041 : Cond.instanceMethod yX3_openWorth ∈ GW := inG 1041 (by decide +kernel) (by decide +kernel)
theorem q_1042 : Cond.selects RX3 yX3_openWorth yX3_openWorth ∈ GW := inG 1042 (by decide +kernel) (by decide +kernel)
theorem q_1043 : Cond.code yX3_openWorth cX3_openWorth 5 (some .int) ∈ GW := inG 1043 (by decide +kernel) (by decide +kernel)
theorem q_1048 : Cond.methodLink RX10 156 yX2_tells ∈ GW := inG 1048 (by decide +kernel) (by decide +kernel)
theorem q_1049 : Cond.instanceMethod yX2_tells ∈ GW := inG 1049 (by decide +kernel) (by decide +kernel)
theorem q_1050 : Cond.selects RX2 yX2_tells yX2_tells ∈ GW := inG 1050 (by decide +kernel) (by decide +kernel)
theorem q_1051 : Cond.code yX2_tells cX2_tells 6 (some .int) ∈ GW := inG 1051 (by decide +kernel) (by decide +kernel)
theorem q_1062 : Cond.methodLink RX10 184 yX1_has ∈ GW := inG 1062 (by decide +kernel) (by decide +kernel)
theorem q_1063 : Cond.methodLink RX10 194 yX10_burningOf ∈ GW := inG 1063 (by decide +kernel) (by decide +kernel)
theorem q_1064 : Cond.instanceMethod yX10_burningOf ∈ GW := inG 1064 (by decide +kernel) (by decide +kernel)
theorem q_1065 : Cond.selects RX10 yX10_burningOf yX10_burningOf ∈ GW := inG 1065 (by decide +kernel) (by decide +kernel)
theorem q_1066 : Cond.code yX10_burningOf cX10_burningOf 3 (some .int) ∈ GW := inG 1066 (by decide +kernel) (by decide +kernel)
theorem q_1067 : Cond.methodLink RX10 160 yJ9_min_7cf53 ∈ GW := inG 1067 (by decide +kernel) (by decide +kernel)
theorem q_1068 : Cond.methodLink RX10 166 yJ9_max_7cf53 ∈ GW := inG 1068 (by decide +kernel) (by decide +kernel)
theorem q_1069 : Cond.methodLink RX10 198 yX10_light ∈ GW := inG 1069 (by decide +kernel) (by decide +kernel)
theorem q_1071 : Cond.instanceMethod yX10_light ∈ GW := inG 1071 (by decide +kernel) (by decide +kernel)
theorem q_1072 : Cond.code yX10_light cX10_light 7 (some .int) ∈ GW := inG 1072 (by decide +kernel) (by decide +kernel)
theorem q_1073 : Cond.methodLink RX10 220 yX4_wasLitAhead ∈ GW := inG 1073 (by decide +kernel) (by decide +kernel)
theorem q_1074 : Cond.instanceMethod yX4_wasLitAhead ∈ GW := inG 1074 (by decide +kernel) (by decide +kernel)
theorem q_1075 : Cond.selects RX4 yX4_wasLitAhead yX4_wasLitAhead ∈ GW := inG 1075 (by decide +kernel) (by decide +kernel)
theorem q_1076 : Cond.code yX4_wasLitAhead cX4_wasLitAhead 2 (some .boolean) ∈ GW := inG 1076 (by decide +kernel) (by decide +kernel)
theorem q_1077 : Cond.methodLink RX10 230 yX3_isOpen ∈ GW := inG 1077 (by decide +kernel) (by decide +kernel)
theorem q_1078 : Cond.methodLink RX10 201 yX10_countOwed ∈ GW := inG 1078 (by decide +kernel) (by decide +kernel)
theorem q_1080 : Cond.instanceMethod yX10_countOwed ∈ GW := inG 1080 (by decide +kernel) (by decide +kernel)
theorem q_1081 : Cond.code yX10_countOwed cX10_countOwed 4 none ∈ GW := inG 1081 (by decide +kernel) (by decide +kernel)
theorem q_1082 : Cond.methodLink RX10 204 yX10_spoilNeeds ∈ GW := inG 1082 (by decide +kernel) (by decide +kernel)
theorem q_1084 : Cond.instanceMethod yX10_spoilNeeds ∈ GW := inG 1084 (by decide +kernel) (by decide +kernel)
theorem q_1085 : Cond.code yX10_spoilNeeds cX10_spoilNeeds 3 none ∈ GW := inG 1085 (by decide +kernel) (by decide +kernel)
theorem q_1086 : Cond.methodLink RX10 207 yX10_writeLine ∈ GW := inG 1086 (by decide +kernel) (by decide +kernel)
theorem q_1088 : Cond.instanceMethod yX10_writeLine ∈ GW := inG 1088 (by decide +kernel) (by decide +kernel)
theorem q_1089 : Cond.code yX10_writeLine cX10_writeLine 6 none ∈ GW := inG 1089 (by decide +kernel) (by decide +kernel)
theorem q_1090 : Cond.methodLink RX10 211 yX10_drawSnow ∈ GW := inG 1090 (by decide +kernel) (by decide +kernel)
theorem q_1092 : Cond.instanceMethod yX10_drawSnow ∈ GW := inG 1092 (by decide +kernel) (by decide +kernel)
theorem q_1093 : Cond.code yX10_drawSnow cX10_drawSnow 2 none ∈ GW := inG 1093 (by decide +kernel) (by decide +kernel)
theorem q_1094 : Cond.methodLink RX10 252 yX4_draw ∈ GW := inG 1094 (by decide +kernel) (by decide +kernel)
theorem q_1095 : Cond.instanceMethod yX4_draw ∈ GW := inG 1095 (by decide +kernel) (by decide +kernel)
theorem q_1096 : Cond.selects RX4 yX4_draw yX4_draw ∈ GW := inG 1096 (by decide +kernel) (by decide +kernel)
theorem q_1097 : Cond.code yX4_draw cX4_draw 2 (some .int) ∈ GW := inG 1097 (by decide +kernel) (by decide +kernel)
theorem q_1108 : Cond.instanceMethod yX10_reachedSet ∈ GW := inG 1108 (by decide +kernel) (by decide +kernel)
theorem q_1109 : Cond.selects RX10 yX10_reachedSet yX10_reachedSet ∈ GW := inG 1109 (by decide +kernel) (by decide +kernel)
theorem q_1110 : Cond.code yX10_reachedSet cX10_reachedSet 4 (some .int) ∈ GW := inG 1110 (by decide +kernel) (by decide +kernel)
theorem q_1308 : Cond.methodLink RX10 255 yX10_spreadSnow ∈ GW := inG 1308 (by decide +kernel) (by decide +kernel)
theorem q_1310 : Cond.instanceMethod yX10_spreadSnow ∈ GW := inG 1310 (by decide +kernel) (by decide +kernel)
theorem q_1311 : Cond.code yX10_spreadSnow cX10_spreadSnow 5 none ∈ GW := inG 1311 (by decide +kernel) (by decide +kernel)
theorem q_1312 : Cond.constant RX10 259 (1000000) ∈ GW := inG 1312 (by decide +kernel) (by decide +kernel)
theorem q_1313 : Cond.methodLink RX10 108 arraycopyName ∈ GW := inG 1313 (by decide +kernel) (by decide +kernel)
theorem q_1332 : Cond.methodLink RX9 34 yX10_reachedSet ∈ GW := inG 1332 (by decide +kernel) (by decide +kernel)
theorem q_1333 : Cond.methodLink RX9 42 yX1_all ∈ GW := inG 1333 (by decide +kernel) (by decide +kernel)
theorem q_1334 : Cond.methodLink RX9 46 yX0_left ∈ GW := inG 1334 (by decide +kernel) (by decide +kernel)
theorem q_1335 : Cond.instanceMethod yX0_left ∈ GW := inG 1335 (by decide +kernel) (by decide +kernel)
theorem q_1336 : Cond.selects RX0 yX0_left yX0_left ∈ GW := inG 1336 (by decide +kernel) (by decide +kernel)
theorem q_1337 : Cond.code yX0_left cX0_left 5 (some .int) ∈ GW := inG 1337 (by decide +kernel) (by decide +kernel)
theorem q_1338 : Cond.methodLink RX9 52 yX9_fill ∈ GW := inG 1338 (by decide +kernel) (by decide +kernel)
theorem q_1340 : Cond.instanceMethod yX9_fill ∈ GW := inG 1340 (by decide +kernel) (by decide +kernel)
theorem q_1341 : Cond.code yX9_fill cX9_fill 10 none ∈ GW := inG 1341 (by decide +kernel) (by decide +kernel)
theorem q_1347 : Cond.instanceMethod yX9_through ∈ GW := inG 1347 (by decide +kernel) (by decide +kernel)
theorem q_1348 : Cond.selects RX9 yX9_through yX9_through ∈ GW := inG 1348 (by decide +kernel) (by decide +kernel)
theorem q_1349 : Cond.code yX9_through cX9_through 4 (some .long) ∈ GW := inG 1349 (by decide +kernel) (by decide +kernel)
theorem q_1358 : Cond.methodLink RX9 56 yX9_through ∈ GW := inG 1358 (by decide +kernel) (by decide +kernel)
theorem q_1359 : Cond.methodLink RX9 60 yJ9_max_f86c9 ∈ GW := inG 1359 (by decide +kernel) (by decide +kernel)
theorem q_1360 : Cond.static yJ9_max_f86c9 ∈ GW := inG 1360 (by decide +kernel) (by decide +kernel)
theorem q_1361 : Cond.code yJ9_max_f86c9 cJ9_max_f86c9 4 (some .long) ∈ GW := inG 1361 (by decide +kernel) (by decide +kernel)
theorem q_152 : Cond.initialized RX10 ∈ GW := inG 152 (by decide +kernel) (by decide +kernel)
theorem q_153 : Cond.initialized RX4 ∈ GW := inG 153 (by decide +kernel) (by decide +kernel)
theorem q_159 : Cond.initialized RX0 ∈ GW := inG 159 (by decide +kernel) (by decide +kernel)
theorem q_161 : Cond.initialized RX9 ∈ GW := inG 161 (by decide +kernel) (by decide +kernel)
theorem q_193 : Cond.fieldLink RX10 129 "LampRound$Now" "oil" "[I" ∈ GW := inG 193 (by decide +kernel) (by decide +kernel)
theorem q_195 : Cond.fieldLink RX10 132 "LampRound$Now" "owed" "[I" ∈ GW := inG 195 (by decide +kernel) (by decide +kernel)
theorem q_198 : Cond.fieldLink RX10 237 "LampRound$Now" "had" "[I" ∈ GW := inG 198 (by decide +kernel) (by decide +kernel)
theorem q_20 : Cond.selects RX10 yX10_nextHouse yX10_nextHouse ∈ GW := inG 20 (by decide +kernel) (by decide +kernel)
theorem q_201 : Cond.fieldLink RX10 240 "LampRound$Now" "last" "[I" ∈ GW := inG 201 (by decide +kernel) (by decide +kernel)
theorem q_206 : Cond.fieldLink RX10 234 "LampRound$Now" "done" "[I" ∈ GW := inG 206 (by decide +kernel) (by decide +kernel)
theorem q_211 : Cond.fieldLink RX10 246 "LampRound$Now" "spoilt" "I" ∈ GW := inG 211 (by decide +kernel) (by decide +kernel)
theorem q_215 : Cond.fieldLink RX10 123 "LampRound$Now" "lamp" "I" ∈ GW := inG 215 (by decide +kernel) (by decide +kernel)
theorem q_220 : Cond.fieldLink RX10 173 "LampRound$Now" "night" "I" ∈ GW := inG 220 (by decide +kernel) (by decide +kernel)
theorem q_223 : Cond.fieldLink RX10 120 "LampRound$Now" "snow" "I" ∈ GW := inG 223 (by decide +kernel) (by decide +kernel)
theorem q_23 : Cond.selects RX10 yX10_readHouse yX10_readHouse ∈ GW := inG 23 (by decide +kernel) (by decide +kernel)
theorem q_230 : Cond.fieldLink RX10 188 "LampRound$Now" "gone" "I" ∈ GW := inG 230 (by decide +kernel) (by decide +kernel)
theorem q_232 : Cond.fieldLink RX10 249 "LampRound$Now" "lines" "I" ∈ GW := inG 232 (by decide +kernel) (by decide +kernel)
theorem q_25 : Cond.selects RX10 yX10_light yX10_light ∈ GW := inG 25 (by decide +kernel) (by decide +kernel)
theorem q_26 : Cond.selects RX10 yX10_countOwed yX10_countOwed ∈ GW := inG 26 (by decide +kernel) (by decide +kernel)
theorem q_27 : Cond.selects RX10 yX10_spoilNeeds yX10_spoilNeeds ∈ GW := inG 27 (by decide +kernel) (by decide +kernel)
theorem q_270 : Cond.fieldLink RX10 126 "LampRound$Houses" "people" "[I" ∈ GW := inG 270 (by decide +kernel) (by decide +kernel)
theorem q_272 : Cond.fieldLink RX10 135 "LampRound$Houses" "bid" "[I" ∈ GW := inG 272 (by decide +kernel) (by decide +kernel)
theorem q_275 : Cond.fieldLink RX10 138 "LampRound$Houses" "says" "[I" ∈ GW := inG 275 (by decide +kernel) (by decide +kernel)
theorem q_279 : Cond.fieldLink RX9 28 "LampRound$Houses" "count" "I" ∈ GW := inG 279 (by decide +kernel) (by decide +kernel)
theorem q_28 : Cond.selects RX10 yX10_writeLine yX10_writeLine ∈ GW := inG 28 (by decide +kernel) (by decide +kernel)
theorem q_283 : Cond.fieldLink RX10 145 "LampRound$Houses" "count" "I" ∈ GW := inG 283 (by decide +kernel) (by decide +kernel)
theorem q_29 : Cond.selects RX10 yX10_drawSnow yX10_drawSnow ∈ GW := inG 29 (by decide +kernel) (by decide +kernel)
theorem q_345 : Cond.fieldLink RX10 224 "LampRound$Needs" "kind" "[I" ∈ GW := inG 345 (by decide +kernel) (by decide +kernel)
theorem q_349 : Cond.fieldLink RX10 227 "LampRound$Needs" "at" "[I" ∈ GW := inG 349 (by decide +kernel) (by decide +kernel)
theorem q_356 : Cond.fieldLink RX10 243 "LampRound$Needs" "to" "[I" ∈ GW := inG 356 (by decide +kernel) (by decide +kernel)
theorem q_364 : Cond.fieldLink RX10 223 "LampRound$Needs" "count" "I" ∈ GW := inG 364 (by decide +kernel) (by decide +kernel)
theorem q_420 : Cond.fieldLink RX10 214 "LampRound$Round" "stops" "[I" ∈ GW := inG 420 (by decide +kernel) (by decide +kernel)
theorem q_423 : Cond.fieldLink RX10 191 "LampRound$Round" "size" "I" ∈ GW := inG 423 (by decide +kernel) (by decide +kernel)
theorem q_44 : Cond.selects RX10 yX10_spreadSnow yX10_spreadSnow ∈ GW := inG 44 (by decide +kernel) (by decide +kernel)
theorem q_45 : Cond.selects RX9 yX9_fill yX9_fill ∈ GW := inG 45 (by decide +kernel) (by decide +kernel)
theorem q_457 : Cond.fieldLink RX10 12 "LampRound$Village" "now" "LLampRound$Now;" ∈ GW := inG 457 (by decide +kernel) (by decide +kernel)
theorem q_460 : Cond.fieldLink RX10 21 "LampRound$Village" "houses" "LLampRound$Houses;" ∈ GW := inG 460 (by decide +kernel) (by decide +kernel)
theorem q_461 : Cond.fieldLink RX9 22 "LampRound$Village" "houses" "LLampRound$Houses;" ∈ GW := inG 461 (by decide +kernel) (by decide +kernel)
theorem q_464 : Cond.fieldLink RX10 28 "LampRound$Village" "paths" "LLampRound$Paths;" ∈ GW := inG 464 (by decide +kernel) (by decide +kernel)
theorem q_467 : Cond.fieldLink RX10 35 "LampRound$Village" "needs" "LLampRound$Needs;" ∈ GW := inG 467 (by decide +kernel) (by decide +kernel)
theorem q_470 : Cond.fieldLink RX10 42 "LampRound$Village" "turns" "LLampRound$Law;" ∈ GW := inG 470 (by decide +kernel) (by decide +kernel)
theorem q_472 : Cond.fieldLink RX10 46 "LampRound$Village" "burning" "LLampRound$Law;" ∈ GW := inG 472 (by decide +kernel) (by decide +kernel)
theorem q_474 : Cond.fieldLink RX10 52 "LampRound$Village" "round" "LLampRound$Round;" ∈ GW := inG 474 (by decide +kernel) (by decide +kernel)
theorem q_477 : Cond.fieldLink RX9 38 "LampRound$Village" "clues" "LLampRound$Clues;" ∈ GW := inG 477 (by decide +kernel) (by decide +kernel)
theorem q_479 : Cond.fieldLink RX10 63 "LampRound$Village" "book" "[I" ∈ GW := inG 479 (by decide +kernel) (by decide +kernel)
theorem q_481 : Cond.fieldLink RX10 114 "LampRound$Village" "flakes" "I" ∈ GW := inG 481 (by decide +kernel) (by decide +kernel)
theorem q_483 : Cond.fieldLink RX10 117 "LampRound$Village" "margin" "I" ∈ GW := inG 483 (by decide +kernel) (by decide +kernel)
theorem q_485 : Cond.fieldLink RX10 67 "LampRound$Village" "dusk" "I" ∈ GW := inG 485 (by decide +kernel) (by decide +kernel)
theorem q_488 : Cond.fieldLink RX10 71 "LampRound$Village" "due" "I" ∈ GW := inG 488 (by decide +kernel) (by decide +kernel)
theorem q_490 : Cond.fieldLink RX10 74 "LampRound$Village" "readings" "[I" ∈ GW := inG 490 (by decide +kernel) (by decide +kernel)
theorem q_491 : Cond.fieldLink RX10 77 "LampRound$Village" "chance" "[I" ∈ GW := inG 491 (by decide +kernel) (by decide +kernel)
theorem q_492 : Cond.fieldLink RX10 80 "LampRound$Village" "chanceAhead" "[I" ∈ GW := inG 492 (by decide +kernel) (by decide +kernel)
theorem q_493 : Cond.fieldLink RX10 83 "LampRound$Village" "likely" "[I" ∈ GW := inG 493 (by decide +kernel) (by decide +kernel)
theorem q_594 : Cond.fieldLink RX9 9 "LampRound$Trail" "leading" "[J" ∈ GW := inG 594 (by decide +kernel) (by decide +kernel)
theorem q_595 : Cond.fieldLink RX9 15 "LampRound$Trail" "going" "[J" ∈ GW := inG 595 (by decide +kernel) (by decide +kernel)
theorem q_596 : Cond.fieldLink RX9 18 "LampRound$Trail" "reached" "[I" ∈ GW := inG 596 (by decide +kernel) (by decide +kernel)
theorem q_675 : Cond.instanceMethod yX1_has ∈ GW := inG 675 (by decide +kernel) (by decide +kernel)
theorem q_676 : Cond.selects RX1 yX1_has yX1_has ∈ GW := inG 676 (by decide +kernel) (by decide +kernel)
theorem q_677 : Cond.code yX1_has cX1_has 2 (some .boolean) ∈ GW := inG 677 (by decide +kernel) (by decide +kernel)
theorem q_808 : Cond.static yJ9_min_7cf53 ∈ GW := inG 808 (by decide +kernel) (by decide +kernel)
theorem q_809 : Cond.code yJ9_min_7cf53 cJ9_min_7cf53 2 (some .int) ∈ GW := inG 809 (by decide +kernel) (by decide +kernel)
theorem hdV_X0_left : yX0_left.cls = RX0 ∧ yX0_left.cls ≠ "java/lang/invoke/MethodHandle" ∧ yX0_left.cls ≠ "java/lang/invoke/VarHandle" ∧ (parseMethodDescriptor yX0_left.desc).map (fun d => d.parameters.length) = some 2 := by decide +kernel
theorem hdV_X1_has : yX1_has.cls = RX1 ∧ yX1_has.cls ≠ "java/lang/invoke/MethodHandle" ∧ yX1_has.cls ≠ "java/lang/invoke/VarHandle" ∧ (parseMethodDescriptor yX1_has.desc).map (fun d => d.parameters.length) = some 1 := by decide +kernel
theorem hdV_X10_burningOf : yX10_burningOf.cls = RX10 ∧ yX10_burningOf.cls ≠ "java/lang/invoke/MethodHandle" ∧ yX10_burningOf.cls ≠ "java/lang/invoke/VarHandle" ∧ (parseMethodDescriptor yX10_burningOf.desc).map (fun d => d.parameters.length) = some 2 := by decide +kernel
theorem hdV_X10_countOwed : yX10_countOwed.cls = RX10 ∧ yX10_countOwed.cls ≠ "java/lang/invoke/MethodHandle" ∧ yX10_countOwed.cls ≠ "java/lang/invoke/VarHandle" ∧ (parseMethodDescriptor yX10_countOwed.desc).map (fun d => d.parameters.length) = some 1 := by decide +kernel
theorem hdV_X10_drawSnow : yX10_drawSnow.cls = RX10 ∧ yX10_drawSnow.cls ≠ "java/lang/invoke/MethodHandle" ∧ yX10_drawSnow.cls ≠ "java/lang/invoke/VarHandle" ∧ (parseMethodDescriptor yX10_drawSnow.desc).map (fun d => d.parameters.length) = some 1 := by decide +kernel
theorem hdV_X10_isReached : yX10_isReached.cls = RX10 ∧ yX10_isReached.cls ≠ "java/lang/invoke/MethodHandle" ∧ yX10_isReached.cls ≠ "java/lang/invoke/VarHandle" ∧ (parseMethodDescriptor yX10_isReached.desc).map (fun d => d.parameters.length) = some 3 := by decide +kernel
theorem hdV_X10_light : yX10_light.cls = RX10 ∧ yX10_light.cls ≠ "java/lang/invoke/MethodHandle" ∧ yX10_light.cls ≠ "java/lang/invoke/VarHandle" ∧ (parseMethodDescriptor yX10_light.desc).map (fun d => d.parameters.length) = some 2 := by decide +kernel
theorem hdV_X10_nextHouse : yX10_nextHouse.cls = RX10 ∧ yX10_nextHouse.cls ≠ "java/lang/invoke/MethodHandle" ∧ yX10_nextHouse.cls ≠ "java/lang/invoke/VarHandle" ∧ (parseMethodDescriptor yX10_nextHouse.desc).map (fun d => d.parameters.length) = some 1 := by decide +kernel
theorem hdV_X10_reachedSet : yX10_reachedSet.cls = RX10 ∧ yX10_reachedSet.cls ≠ "java/lang/invoke/MethodHandle" ∧ yX10_reachedSet.cls ≠ "java/lang/invoke/VarHandle" ∧ (parseMethodDescriptor yX10_reachedSet.desc).map (fun d => d.parameters.length) = some 1 := by decide +kernel
theorem hdV_X10_readHouse : yX10_readHouse.cls = RX10 ∧ yX10_readHouse.cls ≠ "java/lang/invoke/MethodHandle" ∧ yX10_readHouse.cls ≠ "java/lang/invoke/VarHandle" ∧ (parseMethodDescriptor yX10_readHouse.desc).map (fun d => d.parameters.length) = some 2 := by decide +kernel
theorem hdV_X10_spoilNeeds : yX10_spoilNeeds.cls = RX10 ∧ yX10_spoilNeeds.cls ≠ "java/lang/invoke/MethodHandle" ∧ yX10_spoilNeeds.cls ≠ "java/lang/invoke/VarHandle" ∧ (parseMethodDescriptor yX10_spoilNeeds.desc).map (fun d => d.parameters.length) = some 1 := by decide +kernel
theorem hdV_X10_spreadSnow : yX10_spreadSnow.cls = RX10 ∧ yX10_spreadSnow.cls ≠ "java/lang/invoke/MethodHandle" ∧ yX10_spreadSnow.cls ≠ "java/lang/invoke/VarHandle" ∧ (parseMethodDescriptor yX10_spreadSnow.desc).map (fun d => d.parameters.length) = some 1 := by decide +kernel
theorem hdV_X10_turnsOf : yX10_turnsOf.cls = RX10 ∧ yX10_turnsOf.cls ≠ "java/lang/invoke/MethodHandle" ∧ yX10_turnsOf.cls ≠ "java/lang/invoke/VarHandle" ∧ (parseMethodDescriptor yX10_turnsOf.desc).map (fun d => d.parameters.length) = some 2 := by decide +kernel
theorem hdV_X10_writeLine : yX10_writeLine.cls = RX10 ∧ yX10_writeLine.cls ≠ "java/lang/invoke/MethodHandle" ∧ yX10_writeLine.cls ≠ "java/lang/invoke/VarHandle" ∧ (parseMethodDescriptor yX10_writeLine.desc).map (fun d => d.parameters.length) = some 4 := by decide +kernel
theorem hdV_X2_tells : yX2_tells.cls = RX2 ∧ yX2_tells.cls ≠ "java/lang/invoke/MethodHandle" ∧ yX2_tells.cls ≠ "java/lang/invoke/VarHandle" ∧ (parseMethodDescriptor yX2_tells.desc).map (fun d => d.parameters.length) = some 2 := by decide +kernel
theorem hdV_X3_openWorth : yX3_openWorth.cls = RX3 ∧ yX3_openWorth.cls ≠ "java/lang/invoke/MethodHandle" ∧ yX3_openWorth.cls ≠ "java/lang/invoke/VarHandle" ∧ (parseMethodDescriptor yX3_openWorth.desc).map (fun d => d.parameters.length) = some 2 := by decide +kernel
theorem hdV_X4_draw : yX4_draw.cls = RX4 ∧ yX4_draw.cls ≠ "java/lang/invoke/MethodHandle" ∧ yX4_draw.cls ≠ "java/lang/invoke/VarHandle" ∧ (parseMethodDescriptor yX4_draw.desc).map (fun d => d.parameters.length) = some 1 := by decide +kernel
theorem hdV_X4_waited : yX4_waited.cls = RX4 ∧ yX4_waited.cls ≠ "java/lang/invoke/MethodHandle" ∧ yX4_waited.cls ≠ "java/lang/invoke/VarHandle" ∧ (parseMethodDescriptor yX4_waited.desc).map (fun d => d.parameters.length) = some 1 := by decide +kernel
theorem hdV_X4_wasLitAhead : yX4_wasLitAhead.cls = RX4 ∧ yX4_wasLitAhead.cls ≠ "java/lang/invoke/MethodHandle" ∧ yX4_wasLitAhead.cls ≠ "java/lang/invoke/VarHandle" ∧ (parseMethodDescriptor yX4_wasLitAhead.desc).map (fun d => d.parameters.length) = some 1 := by decide +kernel
theorem hdV_X5_apart : yX5_apart.cls = RX5 ∧ yX5_apart.cls ≠ "java/lang/invoke/MethodHandle" ∧ yX5_apart.cls ≠ "java/lang/invoke/VarHandle" ∧ (parseMethodDescriptor yX5_apart.desc).map (fun d => d.parameters.length) = some 3 := by decide +kernel
theorem hdV_X9_fill : yX9_fill.cls = RX9 ∧ yX9_fill.cls ≠ "java/lang/invoke/MethodHandle" ∧ yX9_fill.cls ≠ "java/lang/invoke/VarHandle" ∧ (parseMethodDescriptor yX9_fill.desc).map (fun d => d.parameters.length) = some 5 := by decide +kernel
theorem hdV_X9_through : yX9_through.cls = RX9 ∧ yX9_through.cls ≠ "java/lang/invoke/MethodHandle" ∧ yX9_through.cls ≠ "java/lang/invoke/VarHandle" ∧ (parseMethodDescriptor yX9_through.desc).map (fun d => d.parameters.length) = some 2 := by decide +kernel
