theorem dX1_all_0 : decode cX1_all 0 = .ok (.iconst 1, 1) := by decide +kernel
theorem dX1_all_1 : decode cX1_all 1 = .ok (.aload_n 0, 1) := by decide +kernel
theorem dX1_all_2 : decode cX1_all 2 = .ok (.getfield 39, 3) := by decide +kernel
theorem dX1_all_5 : decode cX1_all 5 = .ok (.ishl, 1) := by decide +kernel
theorem dX1_all_6 : decode cX1_all 6 = .ok (.iconst 1, 1) := by decide +kernel
theorem dX1_all_7 : decode cX1_all 7 = .ok (.isub, 1) := by decide +kernel
theorem dX1_all_8 : decode cX1_all 8 = .ok (.ireturn, 1) := by decide +kernel
theorem dX1_befriend_0 : decode cX1_befriend 0 = .ok (.aload_n 0, 1) := by decide +kernel
theorem dX1_befriend_1 : decode cX1_befriend 1 = .ok (.getfield 24, 3) := by decide +kernel
theorem dX1_befriend_4 : decode cX1_befriend 4 = .ok (.iload_n 1, 1) := by decide +kernel
theorem dX1_befriend_5 : decode cX1_befriend 5 = .ok (.iload_n 3, 1) := by decide +kernel
theorem dX1_befriend_6 : decode cX1_befriend 6 = .ok (.ifCond .eq 16, 3) := by decide +kernel
theorem dX1_befriend_9 : decode cX1_befriend 9 = .ok (.aload_n 0, 1) := by decide +kernel
theorem dX1_befriend_10 : decode cX1_befriend 10 = .ok (.getfield 24, 3) := by decide +kernel
theorem dX1_befriend_13 : decode cX1_befriend 13 = .ok (.iload_n 1, 1) := by decide +kernel
theorem dX1_befriend_14 : decode cX1_befriend 14 = .ok (.iaload, 1) := by decide +kernel
theorem dX1_befriend_15 : decode cX1_befriend 15 = .ok (.iconst 1, 1) := by decide +kernel
theorem dX1_befriend_16 : decode cX1_befriend 16 = .ok (.iload_n 2, 1) := by decide +kernel
theorem dX1_befriend_17 : decode cX1_befriend 17 = .ok (.ishl, 1) := by decide +kernel
theorem dX1_befriend_18 : decode cX1_befriend 18 = .ok (.ior, 1) := by decide +kernel
theorem dX1_befriend_19 : decode cX1_befriend 19 = .ok (.goto 15, 3) := by decide +kernel
theorem dX1_befriend_22 : decode cX1_befriend 22 = .ok (.aload_n 0, 1) := by decide +kernel
theorem dX1_befriend_23 : decode cX1_befriend 23 = .ok (.getfield 24, 3) := by decide +kernel
theorem dX1_befriend_26 : decode cX1_befriend 26 = .ok (.iload_n 1, 1) := by decide +kernel
theorem dX1_befriend_27 : decode cX1_befriend 27 = .ok (.iaload, 1) := by decide +kernel
theorem dX1_befriend_28 : decode cX1_befriend 28 = .ok (.iconst 1, 1) := by decide +kernel
theorem dX1_befriend_29 : decode cX1_befriend 29 = .ok (.iload_n 2, 1) := by decide +kernel
theorem dX1_befriend_30 : decode cX1_befriend 30 = .ok (.ishl, 1) := by decide +kernel
theorem dX1_befriend_31 : decode cX1_befriend 31 = .ok (.iconst (-1), 1) := by decide +kernel
theorem dX1_befriend_32 : decode cX1_befriend 32 = .ok (.ixor, 1) := by decide +kernel
theorem dX1_befriend_33 : decode cX1_befriend 33 = .ok (.iand, 1) := by decide +kernel
theorem dX1_befriend_34 : decode cX1_befriend 34 = .ok (.iastore, 1) := by decide +kernel
theorem dX1_befriend_35 : decode cX1_befriend 35 = .ok (.return_, 1) := by decide +kernel
theorem dX1_canMend_0 : decode cX1_canMend 0 = .ok (.aload_n 1, 1) := by decide +kernel
theorem dX1_canMend_1 : decode cX1_canMend 1 = .ok (.iconst 0, 1) := by decide +kernel
theorem dX1_canMend_2 : decode cX1_canMend 2 = .ok (.aload_n 0, 1) := by decide +kernel
theorem dX1_canMend_3 : decode cX1_canMend 3 = .ok (.getfield 27, 3) := by decide +kernel
theorem dX1_canMend_6 : decode cX1_canMend 6 = .ok (.iconst 0, 1) := by decide +kernel
theorem dX1_canMend_7 : decode cX1_canMend 7 = .ok (.bipush 10, 2) := by decide +kernel
theorem dX1_canMend_9 : decode cX1_canMend 9 = .ok (.invokestatic 33, 3) := by decide +kernel
theorem dX1_canMend_12 : decode cX1_canMend 12 = .ok (.iconst 1, 1) := by decide +kernel
theorem dX1_canMend_13 : decode cX1_canMend 13 = .ok (.istore_n 3, 1) := by decide +kernel
theorem dX1_canMend_14 : decode cX1_canMend 14 = .ok (.iconst 0, 1) := by decide +kernel
theorem dX1_canMend_15 : decode cX1_canMend 15 = .ok (.istore 4, 2) := by decide +kernel
theorem dX1_canMend_17 : decode cX1_canMend 17 = .ok (.iload 4, 2) := by decide +kernel
theorem dX1_canMend_19 : decode cX1_canMend 19 = .ok (.sipush 10000, 3) := by decide +kernel
theorem dX1_canMend_22 : decode cX1_canMend 22 = .ok (.if_icmp .ge 85, 3) := by decide +kernel
theorem dX1_canMend_25 : decode cX1_canMend 25 = .ok (.iload_n 3, 1) := by decide +kernel
theorem dX1_canMend_26 : decode cX1_canMend 26 = .ok (.ifCond .eq 81, 3) := by decide +kernel
theorem dX1_canMend_29 : decode cX1_canMend 29 = .ok (.iconst 0, 1) := by decide +kernel
theorem dX1_canMend_30 : decode cX1_canMend 30 = .ok (.istore_n 3, 1) := by decide +kernel
theorem dX1_canMend_31 : decode cX1_canMend 31 = .ok (.iconst 0, 1) := by decide +kernel
theorem dX1_canMend_32 : decode cX1_canMend 32 = .ok (.istore 5, 2) := by decide +kernel
theorem dX1_canMend_34 : decode cX1_canMend 34 = .ok (.iload 5, 2) := by decide +kernel
theorem dX1_canMend_36 : decode cX1_canMend 36 = .ok (.aload_n 0, 1) := by decide +kernel
theorem dX1_canMend_37 : decode cX1_canMend 37 = .ok (.getfield 39, 3) := by decide +kernel
theorem dX1_canMend_40 : decode cX1_canMend 40 = .ok (.if_icmp .ge 61, 3) := by decide +kernel
theorem dX1_canMend_43 : decode cX1_canMend 43 = .ok (.aload_n 0, 1) := by decide +kernel
theorem dX1_canMend_44 : decode cX1_canMend 44 = .ok (.iload 5, 2) := by decide +kernel
theorem dX1_canMend_46 : decode cX1_canMend 46 = .ok (.iload_n 2, 1) := by decide +kernel
theorem dX1_canMend_47 : decode cX1_canMend 47 = .ok (.invokevirtual 43, 3) := by decide +kernel
theorem dX1_canMend_50 : decode cX1_canMend 50 = .ok (.istore 6, 2) := by decide +kernel
theorem dX1_canMend_52 : decode cX1_canMend 52 = .ok (.aload_n 0, 1) := by decide +kernel
theorem dX1_canMend_53 : decode cX1_canMend 53 = .ok (.getfield 27, 3) := by decide +kernel
theorem dX1_canMend_56 : decode cX1_canMend 56 = .ok (.iload 5, 2) := by decide +kernel
theorem dX1_canMend_58 : decode cX1_canMend 58 = .ok (.iaload, 1) := by decide +kernel
theorem dX1_canMend_59 : decode cX1_canMend 59 = .ok (.iload 6, 2) := by decide +kernel
theorem dX1_canMend_61 : decode cX1_canMend 61 = .ok (.if_icmp .ge 14, 3) := by decide +kernel
theorem dX1_canMend_64 : decode cX1_canMend 64 = .ok (.aload_n 0, 1) := by decide +kernel
theorem dX1_canMend_65 : decode cX1_canMend 65 = .ok (.getfield 27, 3) := by decide +kernel
theorem dX1_canMend_68 : decode cX1_canMend 68 = .ok (.iload 5, 2) := by decide +kernel
theorem dX1_canMend_70 : decode cX1_canMend 70 = .ok (.iload 6, 2) := by decide +kernel
theorem dX1_canMend_72 : decode cX1_canMend 72 = .ok (.iastore, 1) := by decide +kernel
theorem dX1_canMend_73 : decode cX1_canMend 73 = .ok (.iconst 1, 1) := by decide +kernel
theorem dX1_canMend_74 : decode cX1_canMend 74 = .ok (.istore_n 3, 1) := by decide +kernel
theorem dX1_canMend_75 : decode cX1_canMend 75 = .ok (.aload_n 0, 1) := by decide +kernel
theorem dX1_canMend_76 : decode cX1_canMend 76 = .ok (.getfield 27, 3) := by decide +kernel
theorem dX1_canMend_79 : decode cX1_canMend 79 = .ok (.iload 5, 2) := by decide +kernel
theorem dX1_canMend_81 : decode cX1_canMend 81 = .ok (.iaload, 1) := by decide +kernel
theorem dX1_canMend_82 : decode cX1_canMend 82 = .ok (.aload_n 1, 1) := by decide +kernel
theorem dX1_canMend_83 : decode cX1_canMend 83 = .ok (.iload 5, 2) := by decide +kernel
theorem dX1_canMend_85 : decode cX1_canMend 85 = .ok (.iaload, 1) := by decide +kernel
theorem dX1_canMend_86 : decode cX1_canMend 86 = .ok (.isub, 1) := by decide +kernel
theorem dX1_canMend_87 : decode cX1_canMend 87 = .ok (.sipush 9999, 3) := by decide +kernel
theorem dX1_canMend_90 : decode cX1_canMend 90 = .ok (.if_icmp .le 5, 3) := by decide +kernel
theorem dX1_canMend_93 : decode cX1_canMend 93 = .ok (.iconst 0, 1) := by decide +kernel
theorem dX1_canMend_94 : decode cX1_canMend 94 = .ok (.ireturn, 1) := by decide +kernel
theorem dX1_canMend_95 : decode cX1_canMend 95 = .ok (.iinc 5 1, 3) := by decide +kernel
theorem dX1_canMend_98 : decode cX1_canMend 98 = .ok (.goto (-64), 3) := by decide +kernel
theorem dX1_canMend_101 : decode cX1_canMend 101 = .ok (.iinc 4 1, 3) := by decide +kernel
theorem dX1_canMend_104 : decode cX1_canMend 104 = .ok (.goto (-87), 3) := by decide +kernel
theorem dX1_canMend_107 : decode cX1_canMend 107 = .ok (.iconst 1, 1) := by decide +kernel
theorem dX1_canMend_108 : decode cX1_canMend 108 = .ok (.ireturn, 1) := by decide +kernel
theorem dX1_countPairs_0 : decode cX1_countPairs 0 = .ok (.aload_n 0, 1) := by decide +kernel
theorem dX1_countPairs_1 : decode cX1_countPairs 1 = .ok (.getfield 66, 3) := by decide +kernel
theorem dX1_countPairs_4 : decode cX1_countPairs 4 = .ok (.ifnonnull 12, 3) := by decide +kernel
theorem dX1_countPairs_16 : decode cX1_countPairs 16 = .ok (.iconst 0, 1) := by decide +kernel
theorem dX1_countPairs_17 : decode cX1_countPairs 17 = .ok (.istore_n 1, 1) := by decide +kernel
theorem dX1_countPairs_18 : decode cX1_countPairs 18 = .ok (.iload_n 1, 1) := by decide +kernel
theorem dX1_countPairs_19 : decode cX1_countPairs 19 = .ok (.aload_n 0, 1) := by decide +kernel
theorem dX1_countPairs_20 : decode cX1_countPairs 20 = .ok (.getfield 39, 3) := by decide +kernel
theorem dX1_countPairs_23 : decode cX1_countPairs 23 = .ok (.if_icmp .ge 40, 3) := by decide +kernel
theorem dX1_countPairs_26 : decode cX1_countPairs 26 = .ok (.iconst 0, 1) := by decide +kernel
theorem dX1_countPairs_27 : decode cX1_countPairs 27 = .ok (.istore_n 2, 1) := by decide +kernel
theorem dX1_countPairs_28 : decode cX1_countPairs 28 = .ok (.iload_n 2, 1) := by decide +kernel
theorem dX1_countPairs_29 : decode cX1_countPairs 29 = .ok (.iconst 1, 1) := by decide +kernel
theorem dX1_countPairs_30 : decode cX1_countPairs 30 = .ok (.iload_n 1, 1) := by decide +kernel
theorem dX1_countPairs_31 : decode cX1_countPairs 31 = .ok (.ishl, 1) := by decide +kernel
theorem dX1_countPairs_32 : decode cX1_countPairs 32 = .ok (.if_icmp .ge 25, 3) := by decide +kernel
theorem dX1_countPairs_35 : decode cX1_countPairs 35 = .ok (.aload_n 0, 1) := by decide +kernel
theorem dX1_countPairs_36 : decode cX1_countPairs 36 = .ok (.getfield 66, 3) := by decide +kernel
theorem dX1_countPairs_39 : decode cX1_countPairs 39 = .ok (.iload_n 2, 1) := by decide +kernel
theorem dX1_countPairs_40 : decode cX1_countPairs 40 = .ok (.iconst 1, 1) := by decide +kernel
theorem dX1_countPairs_41 : decode cX1_countPairs 41 = .ok (.iload_n 1, 1) := by decide +kernel
theorem dX1_countPairs_42 : decode cX1_countPairs 42 = .ok (.ishl, 1) := by decide +kernel
theorem dX1_countPairs_43 : decode cX1_countPairs 43 = .ok (.ior, 1) := by decide +kernel
theorem dX1_countPairs_44 : decode cX1_countPairs 44 = .ok (.aload_n 0, 1) := by decide +kernel
theorem dX1_countPairs_45 : decode cX1_countPairs 45 = .ok (.iload_n 1, 1) := by decide +kernel
theorem dX1_countPairs_46 : decode cX1_countPairs 46 = .ok (.iload_n 2, 1) := by decide +kernel
theorem dX1_countPairs_47 : decode cX1_countPairs 47 = .ok (.invokevirtual 69, 3) := by decide +kernel
theorem dX1_countPairs_50 : decode cX1_countPairs 50 = .ok (.iastore, 1) := by decide +kernel
theorem dX1_countPairs_51 : decode cX1_countPairs 51 = .ok (.iinc 2 1, 3) := by decide +kernel
theorem dX1_countPairs_54 : decode cX1_countPairs 54 = .ok (.goto (-26), 3) := by decide +kernel
theorem dX1_countPairs_57 : decode cX1_countPairs 57 = .ok (.iinc 1 1, 3) := by decide +kernel
theorem dX1_countPairs_60 : decode cX1_countPairs 60 = .ok (.goto (-42), 3) := by decide +kernel
theorem dX1_countPairs_63 : decode cX1_countPairs 63 = .ok (.return_, 1) := by decide +kernel
theorem dX1_enviedBy_0 : decode cX1_enviedBy 0 = .ok (.iconst 0, 1) := by decide +kernel
theorem dX1_enviedBy_1 : decode cX1_enviedBy 1 = .ok (.istore 4, 2) := by decide +kernel
theorem dX1_enviedBy_3 : decode cX1_enviedBy 3 = .ok (.iconst 0, 1) := by decide +kernel
theorem dX1_enviedBy_4 : decode cX1_enviedBy 4 = .ok (.istore 5, 2) := by decide +kernel
theorem dX1_enviedBy_6 : decode cX1_enviedBy 6 = .ok (.iload 5, 2) := by decide +kernel
theorem dX1_enviedBy_8 : decode cX1_enviedBy 8 = .ok (.aload_n 0, 1) := by decide +kernel
theorem dX1_enviedBy_9 : decode cX1_enviedBy 9 = .ok (.getfield 39, 3) := by decide +kernel
theorem dX1_enviedBy_12 : decode cX1_enviedBy 12 = .ok (.if_icmp .ge 45, 3) := by decide +kernel
theorem dX1_enviedBy_15 : decode cX1_enviedBy 15 = .ok (.aload_n 2, 1) := by decide +kernel
theorem dX1_enviedBy_16 : decode cX1_enviedBy 16 = .ok (.iload 5, 2) := by decide +kernel
theorem dX1_enviedBy_18 : decode cX1_enviedBy 18 = .ok (.iaload, 1) := by decide +kernel
theorem dX1_enviedBy_19 : decode cX1_enviedBy 19 = .ok (.aload_n 0, 1) := by decide +kernel
theorem dX1_enviedBy_20 : decode cX1_enviedBy 20 = .ok (.getfield 15, 3) := by decide +kernel
theorem dX1_enviedBy_23 : decode cX1_enviedBy 23 = .ok (.iload_n 1, 1) := by decide +kernel
theorem dX1_enviedBy_24 : decode cX1_enviedBy 24 = .ok (.iaload, 1) := by decide +kernel
theorem dX1_enviedBy_25 : decode cX1_enviedBy 25 = .ok (.imul, 1) := by decide +kernel
theorem dX1_enviedBy_26 : decode cX1_enviedBy 26 = .ok (.aload_n 2, 1) := by decide +kernel
theorem dX1_enviedBy_27 : decode cX1_enviedBy 27 = .ok (.iload_n 1, 1) := by decide +kernel
theorem dX1_enviedBy_28 : decode cX1_enviedBy 28 = .ok (.iaload, 1) := by decide +kernel
theorem dX1_enviedBy_29 : decode cX1_enviedBy 29 = .ok (.iload_n 3, 1) := by decide +kernel
theorem dX1_enviedBy_30 : decode cX1_enviedBy 30 = .ok (.iadd, 1) := by decide +kernel
theorem dX1_enviedBy_31 : decode cX1_enviedBy 31 = .ok (.aload_n 0, 1) := by decide +kernel
theorem dX1_enviedBy_32 : decode cX1_enviedBy 32 = .ok (.getfield 15, 3) := by decide +kernel
theorem dX1_enviedBy_35 : decode cX1_enviedBy 35 = .ok (.iload 5, 2) := by decide +kernel
theorem dX1_enviedBy_37 : decode cX1_enviedBy 37 = .ok (.iaload, 1) := by decide +kernel
theorem dX1_enviedBy_38 : decode cX1_enviedBy 38 = .ok (.imul, 1) := by decide +kernel
theorem dX1_enviedBy_39 : decode cX1_enviedBy 39 = .ok (.if_icmp .le 12, 3) := by decide +kernel
theorem dX1_enviedBy_42 : decode cX1_enviedBy 42 = .ok (.iload 4, 2) := by decide +kernel
theorem dX1_enviedBy_44 : decode cX1_enviedBy 44 = .ok (.iconst 1, 1) := by decide +kernel
theorem dX1_enviedBy_45 : decode cX1_enviedBy 45 = .ok (.iload 5, 2) := by decide +kernel
theorem dX1_enviedBy_47 : decode cX1_enviedBy 47 = .ok (.ishl, 1) := by decide +kernel
theorem dX1_enviedBy_48 : decode cX1_enviedBy 48 = .ok (.ior, 1) := by decide +kernel
theorem dX1_enviedBy_49 : decode cX1_enviedBy 49 = .ok (.istore 4, 2) := by decide +kernel
theorem dX1_enviedBy_51 : decode cX1_enviedBy 51 = .ok (.iinc 5 1, 3) := by decide +kernel
theorem dX1_enviedBy_54 : decode cX1_enviedBy 54 = .ok (.goto (-48), 3) := by decide +kernel
theorem dX1_enviedBy_57 : decode cX1_enviedBy 57 = .ok (.iload 4, 2) := by decide +kernel
theorem dX1_enviedBy_59 : decode cX1_enviedBy 59 = .ok (.ireturn, 1) := by decide +kernel
theorem dX1_firstPartner_0 : decode cX1_firstPartner 0 = .ok (.iconst 0, 1) := by decide +kernel
theorem dX1_firstPartner_1 : decode cX1_firstPartner 1 = .ok (.istore_n 3, 1) := by decide +kernel
theorem dX1_firstPartner_2 : decode cX1_firstPartner 2 = .ok (.iload_n 3, 1) := by decide +kernel
theorem dX1_firstPartner_3 : decode cX1_firstPartner 3 = .ok (.aload_n 0, 1) := by decide +kernel
theorem dX1_firstPartner_4 : decode cX1_firstPartner 4 = .ok (.getfield 39, 3) := by decide +kernel
theorem dX1_firstPartner_7 : decode cX1_firstPartner 7 = .ok (.if_icmp .ge 64, 3) := by decide +kernel
theorem dX1_firstPartner_10 : decode cX1_firstPartner 10 = .ok (.iload_n 2, 1) := by decide +kernel
theorem dX1_firstPartner_11 : decode cX1_firstPartner 11 = .ok (.aload_n 0, 1) := by decide +kernel
theorem dX1_firstPartner_12 : decode cX1_firstPartner 12 = .ok (.getfield 24, 3) := by decide +kernel
theorem dX1_firstPartner_15 : decode cX1_firstPartner 15 = .ok (.iload_n 1, 1) := by decide +kernel
theorem dX1_firstPartner_16 : decode cX1_firstPartner 16 = .ok (.iaload, 1) := by decide +kernel
theorem dX1_firstPartner_17 : decode cX1_firstPartner 17 = .ok (.iand, 1) := by decide +kernel
theorem dX1_firstPartner_18 : decode cX1_firstPartner 18 = .ok (.iload_n 3, 1) := by decide +kernel
theorem dX1_firstPartner_19 : decode cX1_firstPartner 19 = .ok (.ishr, 1) := by decide +kernel
theorem dX1_firstPartner_20 : decode cX1_firstPartner 20 = .ok (.iconst 1, 1) := by decide +kernel
theorem dX1_firstPartner_21 : decode cX1_firstPartner 21 = .ok (.iand, 1) := by decide +kernel
theorem dX1_firstPartner_22 : decode cX1_firstPartner 22 = .ok (.iconst 1, 1) := by decide +kernel
theorem dX1_firstPartner_23 : decode cX1_firstPartner 23 = .ok (.if_icmp .ne 7, 3) := by decide +kernel
theorem dX1_firstPartner_26 : decode cX1_firstPartner 26 = .ok (.iconst 1, 1) := by decide +kernel
theorem dX1_firstPartner_27 : decode cX1_firstPartner 27 = .ok (.goto 4, 3) := by decide +kernel
theorem dX1_firstPartner_30 : decode cX1_firstPartner 30 = .ok (.iconst 0, 1) := by decide +kernel
theorem dX1_firstPartner_31 : decode cX1_firstPartner 31 = .ok (.istore 4, 2) := by decide +kernel
theorem dX1_firstPartner_33 : decode cX1_firstPartner 33 = .ok (.iload 4, 2) := by decide +kernel
theorem dX1_firstPartner_35 : decode cX1_firstPartner 35 = .ok (.ifCond .eq 30, 3) := by decide +kernel
theorem dX1_firstPartner_38 : decode cX1_firstPartner 38 = .ok (.aload_n 0, 1) := by decide +kernel
theorem dX1_firstPartner_39 : decode cX1_firstPartner 39 = .ok (.iload_n 2, 1) := by decide +kernel
theorem dX1_firstPartner_40 : decode cX1_firstPartner 40 = .ok (.iconst 1, 1) := by decide +kernel
theorem dX1_firstPartner_41 : decode cX1_firstPartner 41 = .ok (.iload_n 1, 1) := by decide +kernel
theorem dX1_firstPartner_42 : decode cX1_firstPartner 42 = .ok (.ishl, 1) := by decide +kernel
theorem dX1_firstPartner_43 : decode cX1_firstPartner 43 = .ok (.iconst 1, 1) := by decide +kernel
theorem dX1_firstPartner_44 : decode cX1_firstPartner 44 = .ok (.iload_n 3, 1) := by decide +kernel
theorem dX1_firstPartner_45 : decode cX1_firstPartner 45 = .ok (.ishl, 1) := by decide +kernel
theorem dX1_firstPartner_46 : decode cX1_firstPartner 46 = .ok (.ior, 1) := by decide +kernel
theorem dX1_firstPartner_47 : decode cX1_firstPartner 47 = .ok (.iconst (-1), 1) := by decide +kernel
theorem dX1_firstPartner_48 : decode cX1_firstPartner 48 = .ok (.ixor, 1) := by decide +kernel
theorem dX1_firstPartner_49 : decode cX1_firstPartner 49 = .ok (.iand, 1) := by decide +kernel
theorem dX1_firstPartner_50 : decode cX1_firstPartner 50 = .ok (.invokevirtual 62, 3) := by decide +kernel
theorem dX1_firstPartner_53 : decode cX1_firstPartner 53 = .ok (.iconst 1, 1) := by decide +kernel
theorem dX1_firstPartner_54 : decode cX1_firstPartner 54 = .ok (.iadd, 1) := by decide +kernel
theorem dX1_firstPartner_55 : decode cX1_firstPartner 55 = .ok (.aload_n 0, 1) := by decide +kernel
theorem dX1_firstPartner_56 : decode cX1_firstPartner 56 = .ok (.iload_n 2, 1) := by decide +kernel
theorem dX1_firstPartner_57 : decode cX1_firstPartner 57 = .ok (.invokevirtual 62, 3) := by decide +kernel
theorem dX1_firstPartner_60 : decode cX1_firstPartner 60 = .ok (.if_icmp .ne 5, 3) := by decide +kernel
theorem dX1_firstPartner_63 : decode cX1_firstPartner 63 = .ok (.iload_n 3, 1) := by decide +kernel
theorem dX1_firstPartner_64 : decode cX1_firstPartner 64 = .ok (.ireturn, 1) := by decide +kernel
theorem dX1_firstPartner_65 : decode cX1_firstPartner 65 = .ok (.iinc 3 1, 3) := by decide +kernel
theorem dX1_firstPartner_68 : decode cX1_firstPartner 68 = .ok (.goto (-66), 3) := by decide +kernel
theorem dX1_firstPartner_71 : decode cX1_firstPartner 71 = .ok (.iconst (-1), 1) := by decide +kernel
theorem dX1_firstPartner_72 : decode cX1_firstPartner 72 = .ok (.ireturn, 1) := by decide +kernel
theorem dX1_has_0 : decode cX1_has 0 = .ok (.iload_n 1, 1) := by decide +kernel
theorem dX1_has_1 : decode cX1_has 1 = .ok (.ifCond .lt 21, 3) := by decide +kernel
theorem dX1_has_4 : decode cX1_has 4 = .ok (.iload_n 1, 1) := by decide +kernel
theorem dX1_has_5 : decode cX1_has 5 = .ok (.aload_n 0, 1) := by decide +kernel
theorem dX1_has_6 : decode cX1_has 6 = .ok (.getfield 39, 3) := by decide +kernel
theorem dX1_has_9 : decode cX1_has 9 = .ok (.if_icmp .ge 13, 3) := by decide +kernel
theorem dX1_has_12 : decode cX1_has 12 = .ok (.iload_n 1, 1) := by decide +kernel
theorem dX1_has_13 : decode cX1_has 13 = .ok (.bipush 10, 2) := by decide +kernel
theorem dX1_has_15 : decode cX1_has 15 = .ok (.if_icmp .ge 7, 3) := by decide +kernel
theorem dX1_has_18 : decode cX1_has 18 = .ok (.iconst 1, 1) := by decide +kernel
theorem dX1_has_19 : decode cX1_has 19 = .ok (.goto 4, 3) := by decide +kernel
theorem dX1_has_22 : decode cX1_has 22 = .ok (.iconst 0, 1) := by decide +kernel
theorem dX1_has_23 : decode cX1_has 23 = .ok (.ireturn, 1) := by decide +kernel
theorem dX1_highestBid_0 : decode cX1_highestBid 0 = .ok (.iconst (-1), 1) := by decide +kernel
theorem dX1_highestBid_1 : decode cX1_highestBid 1 = .ok (.istore_n 2, 1) := by decide +kernel
theorem dX1_highestBid_2 : decode cX1_highestBid 2 = .ok (.iconst 0, 1) := by decide +kernel
theorem dX1_highestBid_3 : decode cX1_highestBid 3 = .ok (.istore_n 3, 1) := by decide +kernel
theorem dX1_highestBid_4 : decode cX1_highestBid 4 = .ok (.iload_n 3, 1) := by decide +kernel
theorem dX1_highestBid_5 : decode cX1_highestBid 5 = .ok (.aload_n 0, 1) := by decide +kernel
theorem dX1_highestBid_6 : decode cX1_highestBid 6 = .ok (.getfield 39, 3) := by decide +kernel
theorem dX1_highestBid_9 : decode cX1_highestBid 9 = .ok (.if_icmp .ge 52, 3) := by decide +kernel
theorem dX1_highestBid_12 : decode cX1_highestBid 12 = .ok (.aload_n 0, 1) := by decide +kernel
theorem dX1_highestBid_13 : decode cX1_highestBid 13 = .ok (.getfield 18, 3) := by decide +kernel
theorem dX1_highestBid_16 : decode cX1_highestBid 16 = .ok (.iload_n 3, 1) := by decide +kernel
theorem dX1_highestBid_17 : decode cX1_highestBid 17 = .ok (.iaload, 1) := by decide +kernel
theorem dX1_highestBid_18 : decode cX1_highestBid 18 = .ok (.iload_n 2, 1) := by decide +kernel
theorem dX1_highestBid_19 : decode cX1_highestBid 19 = .ok (.iconst (-1), 1) := by decide +kernel
theorem dX1_highestBid_20 : decode cX1_highestBid 20 = .ok (.if_icmp .ne 7, 3) := by decide +kernel
theorem dX1_highestBid_23 : decode cX1_highestBid 23 = .ok (.iconst 0, 1) := by decide +kernel
theorem dX1_highestBid_24 : decode cX1_highestBid 24 = .ok (.goto 9, 3) := by decide +kernel
theorem dX1_highestBid_27 : decode cX1_highestBid 27 = .ok (.aload_n 0, 1) := by decide +kernel
theorem dX1_highestBid_28 : decode cX1_highestBid 28 = .ok (.getfield 18, 3) := by decide +kernel
theorem dX1_highestBid_31 : decode cX1_highestBid 31 = .ok (.iload_n 2, 1) := by decide +kernel
theorem dX1_highestBid_32 : decode cX1_highestBid 32 = .ok (.iaload, 1) := by decide +kernel
theorem dX1_highestBid_33 : decode cX1_highestBid 33 = .ok (.if_icmp .le 7, 3) := by decide +kernel
theorem dX1_highestBid_36 : decode cX1_highestBid 36 = .ok (.iconst 1, 1) := by decide +kernel
theorem dX1_highestBid_37 : decode cX1_highestBid 37 = .ok (.goto 4, 3) := by decide +kernel
theorem dX1_highestBid_40 : decode cX1_highestBid 40 = .ok (.iconst 0, 1) := by decide +kernel
theorem dX1_highestBid_41 : decode cX1_highestBid 41 = .ok (.istore 4, 2) := by decide +kernel
theorem dX1_highestBid_43 : decode cX1_highestBid 43 = .ok (.iload_n 3, 1) := by decide +kernel
theorem dX1_highestBid_44 : decode cX1_highestBid 44 = .ok (.iload_n 1, 1) := by decide +kernel
theorem dX1_highestBid_45 : decode cX1_highestBid 45 = .ok (.if_icmp .eq 10, 3) := by decide +kernel
theorem dX1_highestBid_48 : decode cX1_highestBid 48 = .ok (.iload 4, 2) := by decide +kernel
theorem dX1_highestBid_50 : decode cX1_highestBid 50 = .ok (.ifCond .eq 5, 3) := by decide +kernel
theorem dX1_highestBid_53 : decode cX1_highestBid 53 = .ok (.iload_n 3, 1) := by decide +kernel
theorem dX1_highestBid_54 : decode cX1_highestBid 54 = .ok (.istore_n 2, 1) := by decide +kernel
theorem dX1_highestBid_55 : decode cX1_highestBid 55 = .ok (.iinc 3 1, 3) := by decide +kernel
theorem dX1_highestBid_58 : decode cX1_highestBid 58 = .ok (.goto (-54), 3) := by decide +kernel
theorem dX1_highestBid_61 : decode cX1_highestBid 61 = .ok (.iload_n 2, 1) := by decide +kernel
theorem dX1_highestBid_62 : decode cX1_highestBid 62 = .ok (.ireturn, 1) := by decide +kernel
theorem dX1_isBetween_0 : decode cX1_isBetween 0 = .ok (.iload_n 1, 1) := by decide +kernel
theorem dX1_isBetween_1 : decode cX1_isBetween 1 = .ok (.bipush 7, 2) := by decide +kernel
theorem dX1_isBetween_3 : decode cX1_isBetween 3 = .ok (.iand, 1) := by decide +kernel
theorem dX1_isBetween_4 : decode cX1_isBetween 4 = .ok (.iload_n 0, 1) := by decide +kernel
theorem dX1_isBetween_5 : decode cX1_isBetween 5 = .ok (.bipush 7, 2) := by decide +kernel
theorem dX1_isBetween_7 : decode cX1_isBetween 7 = .ok (.iand, 1) := by decide +kernel
theorem dX1_isBetween_8 : decode cX1_isBetween 8 = .ok (.isub, 1) := by decide +kernel
theorem dX1_isBetween_9 : decode cX1_isBetween 9 = .ok (.istore_n 3, 1) := by decide +kernel
theorem dX1_isBetween_10 : decode cX1_isBetween 10 = .ok (.iload_n 1, 1) := by decide +kernel
theorem dX1_isBetween_11 : decode cX1_isBetween 11 = .ok (.iconst 3, 1) := by decide +kernel
theorem dX1_isBetween_12 : decode cX1_isBetween 12 = .ok (.ishr, 1) := by decide +kernel
theorem dX1_isBetween_13 : decode cX1_isBetween 13 = .ok (.iload_n 0, 1) := by decide +kernel
theorem dX1_isBetween_14 : decode cX1_isBetween 14 = .ok (.iconst 3, 1) := by decide +kernel
theorem dX1_isBetween_15 : decode cX1_isBetween 15 = .ok (.ishr, 1) := by decide +kernel
theorem dX1_isBetween_16 : decode cX1_isBetween 16 = .ok (.isub, 1) := by decide +kernel
theorem dX1_isBetween_17 : decode cX1_isBetween 17 = .ok (.istore 4, 2) := by decide +kernel
theorem dX1_isBetween_19 : decode cX1_isBetween 19 = .ok (.iload_n 2, 1) := by decide +kernel
theorem dX1_isBetween_20 : decode cX1_isBetween 20 = .ok (.bipush 7, 2) := by decide +kernel
theorem dX1_isBetween_22 : decode cX1_isBetween 22 = .ok (.iand, 1) := by decide +kernel
theorem dX1_isBetween_23 : decode cX1_isBetween 23 = .ok (.iload_n 0, 1) := by decide +kernel
theorem dX1_isBetween_24 : decode cX1_isBetween 24 = .ok (.bipush 7, 2) := by decide +kernel
theorem dX1_isBetween_26 : decode cX1_isBetween 26 = .ok (.iand, 1) := by decide +kernel
theorem dX1_isBetween_27 : decode cX1_isBetween 27 = .ok (.isub, 1) := by decide +kernel
theorem dX1_isBetween_28 : decode cX1_isBetween 28 = .ok (.istore 5, 2) := by decide +kernel
theorem dX1_isBetween_30 : decode cX1_isBetween 30 = .ok (.iload_n 2, 1) := by decide +kernel
theorem dX1_isBetween_31 : decode cX1_isBetween 31 = .ok (.iconst 3, 1) := by decide +kernel
theorem dX1_isBetween_32 : decode cX1_isBetween 32 = .ok (.ishr, 1) := by decide +kernel
theorem dX1_isBetween_33 : decode cX1_isBetween 33 = .ok (.iload_n 0, 1) := by decide +kernel
theorem dX1_isBetween_34 : decode cX1_isBetween 34 = .ok (.iconst 3, 1) := by decide +kernel
theorem dX1_isBetween_35 : decode cX1_isBetween 35 = .ok (.ishr, 1) := by decide +kernel
theorem dX1_isBetween_36 : decode cX1_isBetween 36 = .ok (.isub, 1) := by decide +kernel
theorem dX1_isBetween_37 : decode cX1_isBetween 37 = .ok (.istore 6, 2) := by decide +kernel
theorem dX1_isBetween_39 : decode cX1_isBetween 39 = .ok (.iload_n 3, 1) := by decide +kernel
theorem dX1_isBetween_40 : decode cX1_isBetween 40 = .ok (.iload 5, 2) := by decide +kernel
theorem dX1_isBetween_42 : decode cX1_isBetween 42 = .ok (.imul, 1) := by decide +kernel
theorem dX1_isBetween_43 : decode cX1_isBetween 43 = .ok (.iload 4, 2) := by decide +kernel
theorem dX1_isBetween_45 : decode cX1_isBetween 45 = .ok (.iload 6, 2) := by decide +kernel
theorem dX1_isBetween_47 : decode cX1_isBetween 47 = .ok (.imul, 1) := by decide +kernel
theorem dX1_isBetween_48 : decode cX1_isBetween 48 = .ok (.iadd, 1) := by decide +kernel
theorem dX1_isBetween_49 : decode cX1_isBetween 49 = .ok (.istore 7, 2) := by decide +kernel
theorem dX1_isBetween_51 : decode cX1_isBetween 51 = .ok (.iload 7, 2) := by decide +kernel
theorem dX1_isBetween_53 : decode cX1_isBetween 53 = .ok (.ifCond .le 21, 3) := by decide +kernel
theorem dX1_isBetween_56 : decode cX1_isBetween 56 = .ok (.iload 7, 2) := by decide +kernel
theorem dX1_isBetween_58 : decode cX1_isBetween 58 = .ok (.iload_n 3, 1) := by decide +kernel
theorem dX1_isBetween_59 : decode cX1_isBetween 59 = .ok (.iload_n 3, 1) := by decide +kernel
theorem dX1_isBetween_60 : decode cX1_isBetween 60 = .ok (.imul, 1) := by decide +kernel
theorem dX1_isBetween_61 : decode cX1_isBetween 61 = .ok (.iload 4, 2) := by decide +kernel
theorem dX1_isBetween_63 : decode cX1_isBetween 63 = .ok (.iload 4, 2) := by decide +kernel
theorem dX1_isBetween_65 : decode cX1_isBetween 65 = .ok (.imul, 1) := by decide +kernel
theorem dX1_isBetween_66 : decode cX1_isBetween 66 = .ok (.iadd, 1) := by decide +kernel
theorem dX1_isBetween_67 : decode cX1_isBetween 67 = .ok (.if_icmp .ge 7, 3) := by decide +kernel
theorem dX1_isBetween_70 : decode cX1_isBetween 70 = .ok (.iconst 1, 1) := by decide +kernel
theorem dX1_isBetween_71 : decode cX1_isBetween 71 = .ok (.goto 4, 3) := by decide +kernel
theorem dX1_isBetween_74 : decode cX1_isBetween 74 = .ok (.iconst 0, 1) := by decide +kernel
theorem dX1_isBetween_75 : decode cX1_isBetween 75 = .ok (.istore 8, 2) := by decide +kernel
theorem dX1_isBetween_77 : decode cX1_isBetween 77 = .ok (.iload 8, 2) := by decide +kernel
theorem dX1_isBetween_79 : decode cX1_isBetween 79 = .ok (.ifCond .eq 19, 3) := by decide +kernel
theorem dX1_isBetween_82 : decode cX1_isBetween 82 = .ok (.iload_n 3, 1) := by decide +kernel
theorem dX1_isBetween_83 : decode cX1_isBetween 83 = .ok (.iload 6, 2) := by decide +kernel
theorem dX1_isBetween_85 : decode cX1_isBetween 85 = .ok (.imul, 1) := by decide +kernel
theorem dX1_isBetween_86 : decode cX1_isBetween 86 = .ok (.iload 4, 2) := by decide +kernel
theorem dX1_isBetween_88 : decode cX1_isBetween 88 = .ok (.iload 5, 2) := by decide +kernel
theorem dX1_isBetween_90 : decode cX1_isBetween 90 = .ok (.imul, 1) := by decide +kernel
theorem dX1_isBetween_91 : decode cX1_isBetween 91 = .ok (.if_icmp .ne 7, 3) := by decide +kernel
theorem dX1_isBetween_94 : decode cX1_isBetween 94 = .ok (.iconst 1, 1) := by decide +kernel
theorem dX1_isBetween_95 : decode cX1_isBetween 95 = .ok (.goto 4, 3) := by decide +kernel
theorem dX1_isBetween_98 : decode cX1_isBetween 98 = .ok (.iconst 0, 1) := by decide +kernel
theorem dX1_isBetween_99 : decode cX1_isBetween 99 = .ok (.ireturn, 1) := by decide +kernel
theorem dX1_isFree_0 : decode cX1_isFree 0 = .ok (.iload_n 1, 1) := by decide +kernel
theorem dX1_isFree_1 : decode cX1_isFree 1 = .ok (.ifCond .lt 9, 3) := by decide +kernel
theorem dX1_isFree_4 : decode cX1_isFree 4 = .ok (.iload_n 1, 1) := by decide +kernel
theorem dX1_isFree_5 : decode cX1_isFree 5 = .ok (.bipush 63, 2) := by decide +kernel
theorem dX1_isFree_7 : decode cX1_isFree 7 = .ok (.if_icmp .le 5, 3) := by decide +kernel
theorem dX1_isFree_10 : decode cX1_isFree 10 = .ok (.iconst 0, 1) := by decide +kernel
theorem dX1_isFree_11 : decode cX1_isFree 11 = .ok (.ireturn, 1) := by decide +kernel
theorem dX1_isFree_12 : decode cX1_isFree 12 = .ok (.iconst 0, 1) := by decide +kernel
theorem dX1_isFree_13 : decode cX1_isFree 13 = .ok (.istore_n 2, 1) := by decide +kernel
theorem dX1_isFree_14 : decode cX1_isFree 14 = .ok (.iload_n 2, 1) := by decide +kernel
theorem dX1_isFree_15 : decode cX1_isFree 15 = .ok (.aload_n 0, 1) := by decide +kernel
theorem dX1_isFree_16 : decode cX1_isFree 16 = .ok (.getfield 39, 3) := by decide +kernel
theorem dX1_isFree_19 : decode cX1_isFree 19 = .ok (.if_icmp .ge 21, 3) := by decide +kernel
theorem dX1_isFree_22 : decode cX1_isFree 22 = .ok (.aload_n 0, 1) := by decide +kernel
theorem dX1_isFree_23 : decode cX1_isFree 23 = .ok (.getfield 9, 3) := by decide +kernel
theorem dX1_isFree_26 : decode cX1_isFree 26 = .ok (.iload_n 2, 1) := by decide +kernel
theorem dX1_isFree_27 : decode cX1_isFree 27 = .ok (.iaload, 1) := by decide +kernel
theorem dX1_isFree_28 : decode cX1_isFree 28 = .ok (.iload_n 1, 1) := by decide +kernel
theorem dX1_isFree_29 : decode cX1_isFree 29 = .ok (.if_icmp .ne 5, 3) := by decide +kernel
theorem dX1_isFree_32 : decode cX1_isFree 32 = .ok (.iconst 0, 1) := by decide +kernel
theorem dX1_isFree_33 : decode cX1_isFree 33 = .ok (.ireturn, 1) := by decide +kernel
theorem dX1_isFree_34 : decode cX1_isFree 34 = .ok (.iinc 2 1, 3) := by decide +kernel
theorem dX1_isFree_37 : decode cX1_isFree 37 = .ok (.goto (-23), 3) := by decide +kernel
theorem dX1_isFree_40 : decode cX1_isFree 40 = .ok (.iconst 1, 1) := by decide +kernel
theorem dX1_isFree_41 : decode cX1_isFree 41 = .ok (.ireturn, 1) := by decide +kernel
theorem dX1_leastUnenvying_0 : decode cX1_leastUnenvying 0 = .ok (.iconst 0, 1) := by decide +kernel
theorem dX1_leastUnenvying_1 : decode cX1_leastUnenvying 1 = .ok (.istore_n 3, 1) := by decide +kernel
theorem dX1_leastUnenvying_2 : decode cX1_leastUnenvying 2 = .ok (.iconst 0, 1) := by decide +kernel
theorem dX1_leastUnenvying_3 : decode cX1_leastUnenvying 3 = .ok (.istore 4, 2) := by decide +kernel
theorem dX1_leastUnenvying_5 : decode cX1_leastUnenvying 5 = .ok (.iload 4, 2) := by decide +kernel
theorem dX1_leastUnenvying_7 : decode cX1_leastUnenvying 7 = .ok (.aload_n 0, 1) := by decide +kernel
theorem dX1_leastUnenvying_8 : decode cX1_leastUnenvying 8 = .ok (.getfield 39, 3) := by decide +kernel
theorem dX1_leastUnenvying_11 : decode cX1_leastUnenvying 11 = .ok (.if_icmp .ge 52, 3) := by decide +kernel
theorem dX1_leastUnenvying_14 : decode cX1_leastUnenvying 14 = .ok (.aload_n 0, 1) := by decide +kernel
theorem dX1_leastUnenvying_15 : decode cX1_leastUnenvying 15 = .ok (.getfield 15, 3) := by decide +kernel
theorem dX1_leastUnenvying_18 : decode cX1_leastUnenvying 18 = .ok (.iload 4, 2) := by decide +kernel
theorem dX1_leastUnenvying_20 : decode cX1_leastUnenvying 20 = .ok (.iaload, 1) := by decide +kernel
theorem dX1_leastUnenvying_21 : decode cX1_leastUnenvying 21 = .ok (.istore 5, 2) := by decide +kernel
theorem dX1_leastUnenvying_23 : decode cX1_leastUnenvying 23 = .ok (.iload 5, 2) := by decide +kernel
theorem dX1_leastUnenvying_25 : decode cX1_leastUnenvying 25 = .ok (.ifCond .le 32, 3) := by decide +kernel
theorem dX1_leastUnenvying_28 : decode cX1_leastUnenvying 28 = .ok (.iload_n 3, 1) := by decide +kernel
theorem dX1_leastUnenvying_29 : decode cX1_leastUnenvying 29 = .ok (.aload_n 0, 1) := by decide +kernel
theorem dX1_leastUnenvying_30 : decode cX1_leastUnenvying 30 = .ok (.getfield 27, 3) := by decide +kernel
theorem dX1_leastUnenvying_33 : decode cX1_leastUnenvying 33 = .ok (.iload 4, 2) := by decide +kernel
theorem dX1_leastUnenvying_35 : decode cX1_leastUnenvying 35 = .ok (.iaload, 1) := by decide +kernel
theorem dX1_leastUnenvying_36 : decode cX1_leastUnenvying 36 = .ok (.aload_n 0, 1) := by decide +kernel
theorem dX1_leastUnenvying_37 : decode cX1_leastUnenvying 37 = .ok (.getfield 15, 3) := by decide +kernel
theorem dX1_leastUnenvying_40 : decode cX1_leastUnenvying 40 = .ok (.iload_n 1, 1) := by decide +kernel
theorem dX1_leastUnenvying_41 : decode cX1_leastUnenvying 41 = .ok (.iaload, 1) := by decide +kernel
theorem dX1_leastUnenvying_42 : decode cX1_leastUnenvying 42 = .ok (.imul, 1) := by decide +kernel
theorem dX1_leastUnenvying_43 : decode cX1_leastUnenvying 43 = .ok (.iload 5, 2) := by decide +kernel
theorem dX1_leastUnenvying_45 : decode cX1_leastUnenvying 45 = .ok (.iadd, 1) := by decide +kernel
theorem dX1_leastUnenvying_46 : decode cX1_leastUnenvying 46 = .ok (.iconst 1, 1) := by decide +kernel
theorem dX1_leastUnenvying_47 : decode cX1_leastUnenvying 47 = .ok (.isub, 1) := by decide +kernel
theorem dX1_leastUnenvying_48 : decode cX1_leastUnenvying 48 = .ok (.iload 5, 2) := by decide +kernel
theorem dX1_leastUnenvying_50 : decode cX1_leastUnenvying 50 = .ok (.idiv, 1) := by decide +kernel
theorem dX1_leastUnenvying_51 : decode cX1_leastUnenvying 51 = .ok (.iload_n 2, 1) := by decide +kernel
theorem dX1_leastUnenvying_52 : decode cX1_leastUnenvying 52 = .ok (.isub, 1) := by decide +kernel
theorem dX1_leastUnenvying_53 : decode cX1_leastUnenvying 53 = .ok (.invokestatic 47, 3) := by decide +kernel
theorem dX1_leastUnenvying_56 : decode cX1_leastUnenvying 56 = .ok (.istore_n 3, 1) := by decide +kernel
theorem dX1_leastUnenvying_57 : decode cX1_leastUnenvying 57 = .ok (.iinc 4 1, 3) := by decide +kernel
theorem dX1_leastUnenvying_60 : decode cX1_leastUnenvying 60 = .ok (.goto (-55), 3) := by decide +kernel
theorem dX1_leastUnenvying_63 : decode cX1_leastUnenvying 63 = .ok (.iload_n 3, 1) := by decide +kernel
theorem dX1_leastUnenvying_64 : decode cX1_leastUnenvying 64 = .ok (.ireturn, 1) := by decide +kernel
theorem dX1_mostPairs_0 : decode cX1_mostPairs 0 = .ok (.aload_n 0, 1) := by decide +kernel
theorem dX1_mostPairs_1 : decode cX1_mostPairs 1 = .ok (.iload_n 2, 1) := by decide +kernel
theorem dX1_mostPairs_2 : decode cX1_mostPairs 2 = .ok (.invokevirtual 62, 3) := by decide +kernel
theorem dX1_mostPairs_5 : decode cX1_mostPairs 5 = .ok (.istore_n 3, 1) := by decide +kernel
theorem dX1_mostPairs_6 : decode cX1_mostPairs 6 = .ok (.iload_n 2, 1) := by decide +kernel
theorem dX1_mostPairs_7 : decode cX1_mostPairs 7 = .ok (.aload_n 0, 1) := by decide +kernel
theorem dX1_mostPairs_8 : decode cX1_mostPairs 8 = .ok (.getfield 24, 3) := by decide +kernel
theorem dX1_mostPairs_11 : decode cX1_mostPairs 11 = .ok (.iload_n 1, 1) := by decide +kernel
theorem dX1_mostPairs_12 : decode cX1_mostPairs 12 = .ok (.iaload, 1) := by decide +kernel
theorem dX1_mostPairs_13 : decode cX1_mostPairs 13 = .ok (.iand, 1) := by decide +kernel
theorem dX1_mostPairs_14 : decode cX1_mostPairs 14 = .ok (.istore 4, 2) := by decide +kernel
theorem dX1_mostPairs_16 : decode cX1_mostPairs 16 = .ok (.iconst 0, 1) := by decide +kernel
theorem dX1_mostPairs_17 : decode cX1_mostPairs 17 = .ok (.istore 5, 2) := by decide +kernel
theorem dX1_mostPairs_19 : decode cX1_mostPairs 19 = .ok (.iload 5, 2) := by decide +kernel
theorem dX1_mostPairs_21 : decode cX1_mostPairs 21 = .ok (.iload_n 1, 1) := by decide +kernel
theorem dX1_mostPairs_22 : decode cX1_mostPairs 22 = .ok (.if_icmp .ge 39, 3) := by decide +kernel
theorem dX1_mostPairs_25 : decode cX1_mostPairs 25 = .ok (.iload 4, 2) := by decide +kernel
theorem dX1_mostPairs_27 : decode cX1_mostPairs 27 = .ok (.iload 5, 2) := by decide +kernel
theorem dX1_mostPairs_29 : decode cX1_mostPairs 29 = .ok (.ishr, 1) := by decide +kernel
theorem dX1_mostPairs_30 : decode cX1_mostPairs 30 = .ok (.iconst 1, 1) := by decide +kernel
theorem dX1_mostPairs_31 : decode cX1_mostPairs 31 = .ok (.iand, 1) := by decide +kernel
theorem dX1_mostPairs_32 : decode cX1_mostPairs 32 = .ok (.iconst 1, 1) := by decide +kernel
theorem dX1_mostPairs_33 : decode cX1_mostPairs 33 = .ok (.if_icmp .ne 22, 3) := by decide +kernel
theorem dX1_mostPairs_36 : decode cX1_mostPairs 36 = .ok (.iload_n 3, 1) := by decide +kernel
theorem dX1_mostPairs_37 : decode cX1_mostPairs 37 = .ok (.aload_n 0, 1) := by decide +kernel
theorem dX1_mostPairs_38 : decode cX1_mostPairs 38 = .ok (.iload_n 2, 1) := by decide +kernel
theorem dX1_mostPairs_39 : decode cX1_mostPairs 39 = .ok (.iconst 1, 1) := by decide +kernel
theorem dX1_mostPairs_40 : decode cX1_mostPairs 40 = .ok (.iload 5, 2) := by decide +kernel
theorem dX1_mostPairs_42 : decode cX1_mostPairs 42 = .ok (.ishl, 1) := by decide +kernel
theorem dX1_mostPairs_43 : decode cX1_mostPairs 43 = .ok (.iconst (-1), 1) := by decide +kernel
theorem dX1_mostPairs_44 : decode cX1_mostPairs 44 = .ok (.ixor, 1) := by decide +kernel
theorem dX1_mostPairs_45 : decode cX1_mostPairs 45 = .ok (.iand, 1) := by decide +kernel
theorem dX1_mostPairs_46 : decode cX1_mostPairs 46 = .ok (.invokevirtual 62, 3) := by decide +kernel
theorem dX1_mostPairs_49 : decode cX1_mostPairs 49 = .ok (.iconst 1, 1) := by decide +kernel
theorem dX1_mostPairs_50 : decode cX1_mostPairs 50 = .ok (.iadd, 1) := by decide +kernel
theorem dX1_mostPairs_51 : decode cX1_mostPairs 51 = .ok (.invokestatic 47, 3) := by decide +kernel
theorem dX1_mostPairs_54 : decode cX1_mostPairs 54 = .ok (.istore_n 3, 1) := by decide +kernel
theorem dX1_mostPairs_55 : decode cX1_mostPairs 55 = .ok (.iinc 5 1, 3) := by decide +kernel
theorem dX1_mostPairs_58 : decode cX1_mostPairs 58 = .ok (.goto (-39), 3) := by decide +kernel
theorem dX1_mostPairs_61 : decode cX1_mostPairs 61 = .ok (.iload_n 3, 1) := by decide +kernel
theorem dX1_mostPairs_62 : decode cX1_mostPairs 62 = .ok (.ireturn, 1) := by decide +kernel
theorem dX1_pairUp_0 : decode cX1_pairUp 0 = .ok (.aload_n 0, 1) := by decide +kernel
theorem dX1_pairUp_1 : decode cX1_pairUp 1 = .ok (.invokevirtual 52, 3) := by decide +kernel
theorem dX1_pairUp_4 : decode cX1_pairUp 4 = .ok (.aload_n 0, 1) := by decide +kernel
theorem dX1_pairUp_5 : decode cX1_pairUp 5 = .ok (.invokevirtual 55, 3) := by decide +kernel
theorem dX1_pairUp_8 : decode cX1_pairUp 8 = .ok (.istore_n 1, 1) := by decide +kernel
theorem dX1_pairUp_9 : decode cX1_pairUp 9 = .ok (.iconst 0, 1) := by decide +kernel
theorem dX1_pairUp_10 : decode cX1_pairUp 10 = .ok (.istore_n 2, 1) := by decide +kernel
theorem dX1_pairUp_11 : decode cX1_pairUp 11 = .ok (.iload_n 2, 1) := by decide +kernel
theorem dX1_pairUp_12 : decode cX1_pairUp 12 = .ok (.aload_n 0, 1) := by decide +kernel
theorem dX1_pairUp_13 : decode cX1_pairUp 13 = .ok (.getfield 39, 3) := by decide +kernel
theorem dX1_pairUp_16 : decode cX1_pairUp 16 = .ok (.if_icmp .ge 60, 3) := by decide +kernel
theorem dX1_pairUp_19 : decode cX1_pairUp 19 = .ok (.iload_n 1, 1) := by decide +kernel
theorem dX1_pairUp_20 : decode cX1_pairUp 20 = .ok (.iload_n 2, 1) := by decide +kernel
theorem dX1_pairUp_21 : decode cX1_pairUp 21 = .ok (.ishr, 1) := by decide +kernel
theorem dX1_pairUp_22 : decode cX1_pairUp 22 = .ok (.iconst 1, 1) := by decide +kernel
theorem dX1_pairUp_23 : decode cX1_pairUp 23 = .ok (.iand, 1) := by decide +kernel
theorem dX1_pairUp_24 : decode cX1_pairUp 24 = .ok (.iconst 1, 1) := by decide +kernel
theorem dX1_pairUp_25 : decode cX1_pairUp 25 = .ok (.if_icmp .ne 45, 3) := by decide +kernel
theorem dX1_pairUp_28 : decode cX1_pairUp 28 = .ok (.aload_n 0, 1) := by decide +kernel
theorem dX1_pairUp_29 : decode cX1_pairUp 29 = .ok (.iload_n 2, 1) := by decide +kernel
theorem dX1_pairUp_30 : decode cX1_pairUp 30 = .ok (.iload_n 1, 1) := by decide +kernel
theorem dX1_pairUp_31 : decode cX1_pairUp 31 = .ok (.invokevirtual 59, 3) := by decide +kernel
theorem dX1_pairUp_34 : decode cX1_pairUp 34 = .ok (.istore_n 3, 1) := by decide +kernel
theorem dX1_pairUp_35 : decode cX1_pairUp 35 = .ok (.aload_n 0, 1) := by decide +kernel
theorem dX1_pairUp_36 : decode cX1_pairUp 36 = .ok (.getfield 30, 3) := by decide +kernel
theorem dX1_pairUp_39 : decode cX1_pairUp 39 = .ok (.iload_n 2, 1) := by decide +kernel
theorem dX1_pairUp_40 : decode cX1_pairUp 40 = .ok (.iload_n 3, 1) := by decide +kernel
theorem dX1_pairUp_41 : decode cX1_pairUp 41 = .ok (.iastore, 1) := by decide +kernel
theorem dX1_pairUp_42 : decode cX1_pairUp 42 = .ok (.iload_n 1, 1) := by decide +kernel
theorem dX1_pairUp_43 : decode cX1_pairUp 43 = .ok (.iconst 1, 1) := by decide +kernel
theorem dX1_pairUp_44 : decode cX1_pairUp 44 = .ok (.iload_n 2, 1) := by decide +kernel
theorem dX1_pairUp_45 : decode cX1_pairUp 45 = .ok (.ishl, 1) := by decide +kernel
theorem dX1_pairUp_46 : decode cX1_pairUp 46 = .ok (.iconst (-1), 1) := by decide +kernel
theorem dX1_pairUp_47 : decode cX1_pairUp 47 = .ok (.ixor, 1) := by decide +kernel
theorem dX1_pairUp_48 : decode cX1_pairUp 48 = .ok (.iand, 1) := by decide +kernel
theorem dX1_pairUp_49 : decode cX1_pairUp 49 = .ok (.istore_n 1, 1) := by decide +kernel
theorem dX1_pairUp_50 : decode cX1_pairUp 50 = .ok (.iload_n 3, 1) := by decide +kernel
theorem dX1_pairUp_51 : decode cX1_pairUp 51 = .ok (.iconst (-1), 1) := by decide +kernel
theorem dX1_pairUp_52 : decode cX1_pairUp 52 = .ok (.if_icmp .eq 18, 3) := by decide +kernel
theorem dX1_pairUp_55 : decode cX1_pairUp 55 = .ok (.aload_n 0, 1) := by decide +kernel
theorem dX1_pairUp_56 : decode cX1_pairUp 56 = .ok (.getfield 30, 3) := by decide +kernel
theorem dX1_pairUp_59 : decode cX1_pairUp 59 = .ok (.iload_n 3, 1) := by decide +kernel
theorem dX1_pairUp_60 : decode cX1_pairUp 60 = .ok (.iload_n 2, 1) := by decide +kernel
theorem dX1_pairUp_61 : decode cX1_pairUp 61 = .ok (.iastore, 1) := by decide +kernel
theorem dX1_pairUp_62 : decode cX1_pairUp 62 = .ok (.iload_n 1, 1) := by decide +kernel
theorem dX1_pairUp_63 : decode cX1_pairUp 63 = .ok (.iconst 1, 1) := by decide +kernel
theorem dX1_pairUp_64 : decode cX1_pairUp 64 = .ok (.iload_n 3, 1) := by decide +kernel
theorem dX1_pairUp_65 : decode cX1_pairUp 65 = .ok (.ishl, 1) := by decide +kernel
theorem dX1_pairUp_66 : decode cX1_pairUp 66 = .ok (.iconst (-1), 1) := by decide +kernel
theorem dX1_pairUp_67 : decode cX1_pairUp 67 = .ok (.ixor, 1) := by decide +kernel
theorem dX1_pairUp_68 : decode cX1_pairUp 68 = .ok (.iand, 1) := by decide +kernel
theorem dX1_pairUp_69 : decode cX1_pairUp 69 = .ok (.istore_n 1, 1) := by decide +kernel
theorem dX1_pairUp_70 : decode cX1_pairUp 70 = .ok (.iinc 2 1, 3) := by decide +kernel
theorem dX1_pairUp_73 : decode cX1_pairUp 73 = .ok (.goto (-62), 3) := by decide +kernel
theorem dX1_pairUp_76 : decode cX1_pairUp 76 = .ok (.aload_n 0, 1) := by decide +kernel
theorem dX1_pairUp_77 : decode cX1_pairUp 77 = .ok (.aload_n 0, 1) := by decide +kernel
theorem dX1_pairUp_78 : decode cX1_pairUp 78 = .ok (.invokevirtual 55, 3) := by decide +kernel
theorem dX1_pairUp_81 : decode cX1_pairUp 81 = .ok (.invokevirtual 62, 3) := by decide +kernel
theorem dX1_pairUp_84 : decode cX1_pairUp 84 = .ok (.ireturn, 1) := by decide +kernel
theorem dX1_pairsIn_0 : decode cX1_pairsIn 0 = .ok (.aload_n 0, 1) := by decide +kernel
theorem dX1_pairsIn_1 : decode cX1_pairsIn 1 = .ok (.getfield 66, 3) := by decide +kernel
theorem dX1_pairsIn_4 : decode cX1_pairsIn 4 = .ok (.ifnull 25, 3) := by decide +kernel
theorem dX1_pairsIn_7 : decode cX1_pairsIn 7 = .ok (.iload_n 1, 1) := by decide +kernel
theorem dX1_pairsIn_8 : decode cX1_pairsIn 8 = .ok (.ifCond .le 21, 3) := by decide +kernel
theorem dX1_pairsIn_11 : decode cX1_pairsIn 11 = .ok (.iload_n 1, 1) := by decide +kernel
theorem dX1_pairsIn_12 : decode cX1_pairsIn 12 = .ok (.aload_n 0, 1) := by decide +kernel
theorem dX1_pairsIn_13 : decode cX1_pairsIn 13 = .ok (.getfield 66, 3) := by decide +kernel
theorem dX1_pairsIn_16 : decode cX1_pairsIn 16 = .ok (.arraylength, 1) := by decide +kernel
theorem dX1_pairsIn_17 : decode cX1_pairsIn 17 = .ok (.if_icmp .ge 12, 3) := by decide +kernel
theorem dX1_pairsIn_20 : decode cX1_pairsIn 20 = .ok (.aload_n 0, 1) := by decide +kernel
theorem dX1_pairsIn_21 : decode cX1_pairsIn 21 = .ok (.getfield 66, 3) := by decide +kernel
theorem dX1_pairsIn_24 : decode cX1_pairsIn 24 = .ok (.iload_n 1, 1) := by decide +kernel
theorem dX1_pairsIn_25 : decode cX1_pairsIn 25 = .ok (.iaload, 1) := by decide +kernel
theorem dX1_pairsIn_26 : decode cX1_pairsIn 26 = .ok (.goto 4, 3) := by decide +kernel
theorem dX1_pairsIn_29 : decode cX1_pairsIn 29 = .ok (.iconst 0, 1) := by decide +kernel
theorem dX1_pairsIn_30 : decode cX1_pairsIn 30 = .ok (.ireturn, 1) := by decide +kernel
theorem dX1_seenBy_0 : decode cX1_seenBy 0 = .ok (.iconst 0, 1) := by decide +kernel
theorem dX1_seenBy_1 : decode cX1_seenBy 1 = .ok (.istore_n 2, 1) := by decide +kernel
theorem dX1_seenBy_2 : decode cX1_seenBy 2 = .ok (.iconst 0, 1) := by decide +kernel
theorem dX1_seenBy_3 : decode cX1_seenBy 3 = .ok (.istore_n 3, 1) := by decide +kernel
theorem dX1_seenBy_4 : decode cX1_seenBy 4 = .ok (.iload_n 3, 1) := by decide +kernel
theorem dX1_seenBy_5 : decode cX1_seenBy 5 = .ok (.aload_n 0, 1) := by decide +kernel
theorem dX1_seenBy_6 : decode cX1_seenBy 6 = .ok (.getfield 39, 3) := by decide +kernel
theorem dX1_seenBy_9 : decode cX1_seenBy 9 = .ok (.if_icmp .ge 39, 3) := by decide +kernel
theorem dX1_seenBy_12 : decode cX1_seenBy 12 = .ok (.iload_n 3, 1) := by decide +kernel
theorem dX1_seenBy_13 : decode cX1_seenBy 13 = .ok (.iload_n 1, 1) := by decide +kernel
theorem dX1_seenBy_14 : decode cX1_seenBy 14 = .ok (.if_icmp .eq 28, 3) := by decide +kernel
theorem dX1_seenBy_17 : decode cX1_seenBy 17 = .ok (.aload_n 0, 1) := by decide +kernel
theorem dX1_seenBy_18 : decode cX1_seenBy 18 = .ok (.aload_n 0, 1) := by decide +kernel
theorem dX1_seenBy_19 : decode cX1_seenBy 19 = .ok (.getfield 9, 3) := by decide +kernel
theorem dX1_seenBy_22 : decode cX1_seenBy 22 = .ok (.iload_n 1, 1) := by decide +kernel
theorem dX1_seenBy_23 : decode cX1_seenBy 23 = .ok (.iaload, 1) := by decide +kernel
theorem dX1_seenBy_24 : decode cX1_seenBy 24 = .ok (.aload_n 0, 1) := by decide +kernel
theorem dX1_seenBy_25 : decode cX1_seenBy 25 = .ok (.getfield 9, 3) := by decide +kernel
theorem dX1_seenBy_28 : decode cX1_seenBy 28 = .ok (.iload_n 3, 1) := by decide +kernel
theorem dX1_seenBy_29 : decode cX1_seenBy 29 = .ok (.iaload, 1) := by decide +kernel
theorem dX1_seenBy_30 : decode cX1_seenBy 30 = .ok (.invokevirtual 72, 3) := by decide +kernel
theorem dX1_seenBy_33 : decode cX1_seenBy 33 = .ok (.ifCond .eq 9, 3) := by decide +kernel
theorem dX1_seenBy_36 : decode cX1_seenBy 36 = .ok (.iload_n 2, 1) := by decide +kernel
theorem dX1_seenBy_37 : decode cX1_seenBy 37 = .ok (.iconst 1, 1) := by decide +kernel
theorem dX1_seenBy_38 : decode cX1_seenBy 38 = .ok (.iload_n 3, 1) := by decide +kernel
theorem dX1_seenBy_39 : decode cX1_seenBy 39 = .ok (.ishl, 1) := by decide +kernel
theorem dX1_seenBy_40 : decode cX1_seenBy 40 = .ok (.ior, 1) := by decide +kernel
theorem dX1_seenBy_41 : decode cX1_seenBy 41 = .ok (.istore_n 2, 1) := by decide +kernel
theorem dX1_seenBy_42 : decode cX1_seenBy 42 = .ok (.iinc 3 1, 3) := by decide +kernel
theorem dX1_seenBy_45 : decode cX1_seenBy 45 = .ok (.goto (-41), 3) := by decide +kernel
theorem dX1_seenBy_48 : decode cX1_seenBy 48 = .ok (.iload_n 2, 1) := by decide +kernel
theorem dX1_seenBy_49 : decode cX1_seenBy 49 = .ok (.ireturn, 1) := by decide +kernel
theorem dX1_sees_0 : decode cX1_sees 0 = .ok (.iload_n 1, 1) := by decide +kernel
theorem dX1_sees_1 : decode cX1_sees 1 = .ok (.bipush 7, 2) := by decide +kernel
theorem dX1_sees_3 : decode cX1_sees 3 = .ok (.iand, 1) := by decide +kernel
theorem dX1_sees_4 : decode cX1_sees 4 = .ok (.iload_n 2, 1) := by decide +kernel
theorem dX1_sees_5 : decode cX1_sees 5 = .ok (.bipush 7, 2) := by decide +kernel
theorem dX1_sees_7 : decode cX1_sees 7 = .ok (.iand, 1) := by decide +kernel
theorem dX1_sees_8 : decode cX1_sees 8 = .ok (.isub, 1) := by decide +kernel
theorem dX1_sees_9 : decode cX1_sees 9 = .ok (.invokestatic 76, 3) := by decide +kernel
theorem dX1_sees_12 : decode cX1_sees 12 = .ok (.iload_n 1, 1) := by decide +kernel
theorem dX1_sees_13 : decode cX1_sees 13 = .ok (.iconst 3, 1) := by decide +kernel
theorem dX1_sees_14 : decode cX1_sees 14 = .ok (.ishr, 1) := by decide +kernel
theorem dX1_sees_15 : decode cX1_sees 15 = .ok (.iload_n 2, 1) := by decide +kernel
theorem dX1_sees_16 : decode cX1_sees 16 = .ok (.iconst 3, 1) := by decide +kernel
theorem dX1_sees_17 : decode cX1_sees 17 = .ok (.ishr, 1) := by decide +kernel
theorem dX1_sees_18 : decode cX1_sees 18 = .ok (.isub, 1) := by decide +kernel
theorem dX1_sees_19 : decode cX1_sees 19 = .ok (.invokestatic 76, 3) := by decide +kernel
theorem dX1_sees_22 : decode cX1_sees 22 = .ok (.iadd, 1) := by decide +kernel
theorem dX1_sees_23 : decode cX1_sees 23 = .ok (.istore_n 3, 1) := by decide +kernel
theorem dX1_sees_24 : decode cX1_sees 24 = .ok (.iload_n 3, 1) := by decide +kernel
theorem dX1_sees_25 : decode cX1_sees 25 = .ok (.iconst 5, 1) := by decide +kernel
theorem dX1_sees_26 : decode cX1_sees 26 = .ok (.if_icmp .le 5, 3) := by decide +kernel
theorem dX1_sees_29 : decode cX1_sees 29 = .ok (.iconst 0, 1) := by decide +kernel
theorem dX1_sees_30 : decode cX1_sees 30 = .ok (.ireturn, 1) := by decide +kernel
theorem dX1_sees_31 : decode cX1_sees 31 = .ok (.iconst 0, 1) := by decide +kernel
theorem dX1_sees_32 : decode cX1_sees 32 = .ok (.istore 4, 2) := by decide +kernel
theorem dX1_sees_34 : decode cX1_sees 34 = .ok (.iload 4, 2) := by decide +kernel
theorem dX1_sees_36 : decode cX1_sees 36 = .ok (.aload_n 0, 1) := by decide +kernel
theorem dX1_sees_37 : decode cX1_sees 37 = .ok (.getfield 39, 3) := by decide +kernel
theorem dX1_sees_40 : decode cX1_sees 40 = .ok (.if_icmp .ge 26, 3) := by decide +kernel
theorem dX1_sees_43 : decode cX1_sees 43 = .ok (.iload_n 1, 1) := by decide +kernel
theorem dX1_sees_44 : decode cX1_sees 44 = .ok (.iload_n 2, 1) := by decide +kernel
theorem dX1_sees_45 : decode cX1_sees 45 = .ok (.aload_n 0, 1) := by decide +kernel
theorem dX1_sees_46 : decode cX1_sees 46 = .ok (.getfield 9, 3) := by decide +kernel
theorem dX1_sees_49 : decode cX1_sees 49 = .ok (.iload 4, 2) := by decide +kernel
theorem dX1_sees_51 : decode cX1_sees 51 = .ok (.iaload, 1) := by decide +kernel
theorem dX1_sees_52 : decode cX1_sees 52 = .ok (.invokestatic 79, 3) := by decide +kernel
theorem dX1_sees_55 : decode cX1_sees 55 = .ok (.ifCond .eq 5, 3) := by decide +kernel
theorem dX1_sees_58 : decode cX1_sees 58 = .ok (.iconst 0, 1) := by decide +kernel
theorem dX1_sees_59 : decode cX1_sees 59 = .ok (.ireturn, 1) := by decide +kernel
theorem dX1_sees_60 : decode cX1_sees 60 = .ok (.iinc 4 1, 3) := by decide +kernel
theorem dX1_sees_63 : decode cX1_sees 63 = .ok (.goto (-29), 3) := by decide +kernel
theorem dX1_sees_66 : decode cX1_sees 66 = .ok (.iconst 1, 1) := by decide +kernel
theorem dX1_sees_67 : decode cX1_sees 67 = .ok (.ireturn, 1) := by decide +kernel
theorem dX1_take_0 : decode cX1_take 0 = .ok (.aload_n 1, 1) := by decide +kernel
theorem dX1_take_1 : decode cX1_take 1 = .ok (.getfield 9, 3) := by decide +kernel
theorem dX1_take_4 : decode cX1_take 4 = .ok (.iconst 0, 1) := by decide +kernel
theorem dX1_take_5 : decode cX1_take 5 = .ok (.aload_n 0, 1) := by decide +kernel
theorem dX1_take_6 : decode cX1_take 6 = .ok (.getfield 9, 3) := by decide +kernel
theorem dX1_take_9 : decode cX1_take 9 = .ok (.iconst 0, 1) := by decide +kernel
theorem dX1_take_10 : decode cX1_take 10 = .ok (.bipush 10, 2) := by decide +kernel
theorem dX1_take_12 : decode cX1_take 12 = .ok (.invokestatic 33, 3) := by decide +kernel
theorem dX1_take_15 : decode cX1_take 15 = .ok (.aload_n 1, 1) := by decide +kernel
theorem dX1_take_16 : decode cX1_take 16 = .ok (.getfield 15, 3) := by decide +kernel
theorem dX1_take_19 : decode cX1_take 19 = .ok (.iconst 0, 1) := by decide +kernel
theorem dX1_take_20 : decode cX1_take 20 = .ok (.aload_n 0, 1) := by decide +kernel
theorem dX1_take_21 : decode cX1_take 21 = .ok (.getfield 15, 3) := by decide +kernel
theorem dX1_take_24 : decode cX1_take 24 = .ok (.iconst 0, 1) := by decide +kernel
theorem dX1_take_25 : decode cX1_take 25 = .ok (.bipush 10, 2) := by decide +kernel
theorem dX1_take_27 : decode cX1_take 27 = .ok (.invokestatic 33, 3) := by decide +kernel
theorem dX1_take_30 : decode cX1_take 30 = .ok (.aload_n 1, 1) := by decide +kernel
theorem dX1_take_31 : decode cX1_take 31 = .ok (.getfield 18, 3) := by decide +kernel
theorem dX1_take_34 : decode cX1_take 34 = .ok (.iconst 0, 1) := by decide +kernel
theorem dX1_take_35 : decode cX1_take 35 = .ok (.aload_n 0, 1) := by decide +kernel
theorem dX1_take_36 : decode cX1_take 36 = .ok (.getfield 18, 3) := by decide +kernel
theorem dX1_take_39 : decode cX1_take 39 = .ok (.iconst 0, 1) := by decide +kernel
theorem dX1_take_40 : decode cX1_take 40 = .ok (.bipush 10, 2) := by decide +kernel
theorem dX1_take_42 : decode cX1_take 42 = .ok (.invokestatic 33, 3) := by decide +kernel
theorem dX1_take_45 : decode cX1_take 45 = .ok (.aload_n 1, 1) := by decide +kernel
theorem dX1_take_46 : decode cX1_take 46 = .ok (.getfield 21, 3) := by decide +kernel
theorem dX1_take_49 : decode cX1_take 49 = .ok (.iconst 0, 1) := by decide +kernel
theorem dX1_take_50 : decode cX1_take 50 = .ok (.aload_n 0, 1) := by decide +kernel
theorem dX1_take_51 : decode cX1_take 51 = .ok (.getfield 21, 3) := by decide +kernel
theorem dX1_take_54 : decode cX1_take 54 = .ok (.iconst 0, 1) := by decide +kernel
theorem dX1_take_55 : decode cX1_take 55 = .ok (.bipush 10, 2) := by decide +kernel
theorem dX1_take_57 : decode cX1_take 57 = .ok (.invokestatic 33, 3) := by decide +kernel
theorem dX1_take_60 : decode cX1_take 60 = .ok (.aload_n 1, 1) := by decide +kernel
theorem dX1_take_61 : decode cX1_take 61 = .ok (.getfield 24, 3) := by decide +kernel
theorem dX1_take_64 : decode cX1_take 64 = .ok (.iconst 0, 1) := by decide +kernel
theorem dX1_take_65 : decode cX1_take 65 = .ok (.aload_n 0, 1) := by decide +kernel
theorem dX1_take_66 : decode cX1_take 66 = .ok (.getfield 24, 3) := by decide +kernel
theorem dX1_take_69 : decode cX1_take 69 = .ok (.iconst 0, 1) := by decide +kernel
theorem dX1_take_70 : decode cX1_take 70 = .ok (.bipush 10, 2) := by decide +kernel
theorem dX1_take_72 : decode cX1_take 72 = .ok (.invokestatic 33, 3) := by decide +kernel
theorem dX1_take_75 : decode cX1_take 75 = .ok (.aload_n 0, 1) := by decide +kernel
theorem dX1_take_76 : decode cX1_take 76 = .ok (.aload_n 1, 1) := by decide +kernel
theorem dX1_take_77 : decode cX1_take 77 = .ok (.getfield 39, 3) := by decide +kernel
theorem dX1_take_80 : decode cX1_take 80 = .ok (.putfield 39, 3) := by decide +kernel
theorem dX1_take_83 : decode cX1_take 83 = .ok (.return_, 1) := by decide +kernel
theorem dX2_emit_0 : decode cX2_emit 0 = .ok (.iload_n 1, 1) := by decide +kernel
theorem dX2_emit_1 : decode cX2_emit 1 = .ok (.ifCond .eq 33, 3) := by decide +kernel
theorem dX2_emit_4 : decode cX2_emit 4 = .ok (.aload_n 0, 1) := by decide +kernel
theorem dX2_emit_5 : decode cX2_emit 5 = .ok (.getfield 34, 3) := by decide +kernel
theorem dX2_emit_8 : decode cX2_emit 8 = .ok (.sipush 400, 3) := by decide +kernel
theorem dX2_emit_11 : decode cX2_emit 11 = .ok (.if_icmp .ge 23, 3) := by decide +kernel
theorem dX2_emit_14 : decode cX2_emit 14 = .ok (.aload_n 0, 1) := by decide +kernel
theorem dX2_emit_15 : decode cX2_emit 15 = .ok (.getfield 9, 3) := by decide +kernel
theorem dX2_emit_18 : decode cX2_emit 18 = .ok (.aload_n 0, 1) := by decide +kernel
theorem dX2_emit_19 : decode cX2_emit 19 = .ok (.getfield 34, 3) := by decide +kernel
theorem dX2_emit_22 : decode cX2_emit 22 = .ok (.iload_n 1, 1) := by decide +kernel
theorem dX2_emit_23 : decode cX2_emit 23 = .ok (.iastore, 1) := by decide +kernel
theorem dX2_emit_24 : decode cX2_emit 24 = .ok (.aload_n 0, 1) := by decide +kernel
theorem dX2_emit_25 : decode cX2_emit 25 = .ok (.dup, 1) := by decide +kernel
theorem dX2_emit_26 : decode cX2_emit 26 = .ok (.getfield 34, 3) := by decide +kernel
theorem dX2_emit_29 : decode cX2_emit 29 = .ok (.iconst 1, 1) := by decide +kernel
theorem dX2_emit_30 : decode cX2_emit 30 = .ok (.iadd, 1) := by decide +kernel
theorem dX2_emit_31 : decode cX2_emit 31 = .ok (.putfield 34, 3) := by decide +kernel
theorem dX2_emit_34 : decode cX2_emit 34 = .ok (.return_, 1) := by decide +kernel
theorem dX2_endNots_0 : decode cX2_endNots 0 = .ok (.aload_n 0, 1) := by decide +kernel
theorem dX2_endNots_1 : decode cX2_endNots 1 = .ok (.getfield 79, 3) := by decide +kernel
theorem dX2_endNots_4 : decode cX2_endNots 4 = .ok (.ifCond .le 50, 3) := by decide +kernel
theorem dX2_endNots_7 : decode cX2_endNots 7 = .ok (.aload_n 0, 1) := by decide +kernel
theorem dX2_endNots_8 : decode cX2_endNots 8 = .ok (.getfield 21, 3) := by decide +kernel
theorem dX2_endNots_11 : decode cX2_endNots 11 = .ok (.aload_n 0, 1) := by decide +kernel
theorem dX2_endNots_12 : decode cX2_endNots 12 = .ok (.getfield 79, 3) := by decide +kernel
theorem dX2_endNots_15 : decode cX2_endNots 15 = .ok (.iconst 1, 1) := by decide +kernel
theorem dX2_endNots_16 : decode cX2_endNots 16 = .ok (.isub, 1) := by decide +kernel
theorem dX2_endNots_17 : decode cX2_endNots 17 = .ok (.iaload, 1) := by decide +kernel
theorem dX2_endNots_18 : decode cX2_endNots 18 = .ok (.sipush 260, 3) := by decide +kernel
theorem dX2_endNots_21 : decode cX2_endNots 21 = .ok (.if_icmp .ne 33, 3) := by decide +kernel
theorem dX2_endNots_24 : decode cX2_endNots 24 = .ok (.aload_n 0, 1) := by decide +kernel
theorem dX2_endNots_25 : decode cX2_endNots 25 = .ok (.sipush 260, 3) := by decide +kernel
theorem dX2_endNots_28 : decode cX2_endNots 28 = .ok (.invokevirtual 69, 3) := by decide +kernel
theorem dX2_endNots_31 : decode cX2_endNots 31 = .ok (.aload_n 0, 1) := by decide +kernel
theorem dX2_endNots_32 : decode cX2_endNots 32 = .ok (.dup, 1) := by decide +kernel
theorem dX2_endNots_33 : decode cX2_endNots 33 = .ok (.getfield 79, 3) := by decide +kernel
theorem dX2_endNots_36 : decode cX2_endNots 36 = .ok (.iconst 1, 1) := by decide +kernel
theorem dX2_endNots_37 : decode cX2_endNots 37 = .ok (.isub, 1) := by decide +kernel
theorem dX2_endNots_38 : decode cX2_endNots 38 = .ok (.putfield 79, 3) := by decide +kernel
theorem dX2_endNots_41 : decode cX2_endNots 41 = .ok (.aload_n 0, 1) := by decide +kernel
theorem dX2_endNots_42 : decode cX2_endNots 42 = .ok (.dup, 1) := by decide +kernel
theorem dX2_endNots_43 : decode cX2_endNots 43 = .ok (.getfield 85, 3) := by decide +kernel
theorem dX2_endNots_46 : decode cX2_endNots 46 = .ok (.iconst 1, 1) := by decide +kernel
theorem dX2_endNots_47 : decode cX2_endNots 47 = .ok (.isub, 1) := by decide +kernel
theorem dX2_endNots_48 : decode cX2_endNots 48 = .ok (.putfield 85, 3) := by decide +kernel
theorem dX2_endNots_51 : decode cX2_endNots 51 = .ok (.goto (-51), 3) := by decide +kernel
theorem dX2_endNots_54 : decode cX2_endNots 54 = .ok (.return_, 1) := by decide +kernel
theorem dX2_fold_0 : decode cX2_fold 0 = .ok (.aload_n 0, 1) := by decide +kernel
theorem dX2_fold_1 : decode cX2_fold 1 = .ok (.getfield 79, 3) := by decide +kernel
theorem dX2_fold_4 : decode cX2_fold 4 = .ok (.ifCond .le 63, 3) := by decide +kernel
theorem dX2_fold_7 : decode cX2_fold 7 = .ok (.aload_n 0, 1) := by decide +kernel
theorem dX2_fold_8 : decode cX2_fold 8 = .ok (.getfield 21, 3) := by decide +kernel
theorem dX2_fold_11 : decode cX2_fold 11 = .ok (.aload_n 0, 1) := by decide +kernel
theorem dX2_fold_12 : decode cX2_fold 12 = .ok (.getfield 79, 3) := by decide +kernel
theorem dX2_fold_15 : decode cX2_fold 15 = .ok (.iconst 1, 1) := by decide +kernel
theorem dX2_fold_16 : decode cX2_fold 16 = .ok (.isub, 1) := by decide +kernel
theorem dX2_fold_17 : decode cX2_fold 17 = .ok (.iaload, 1) := by decide +kernel
theorem dX2_fold_18 : decode cX2_fold 18 = .ok (.sipush 259, 3) := by decide +kernel
theorem dX2_fold_21 : decode cX2_fold 21 = .ok (.if_icmp .eq 18, 3) := by decide +kernel
theorem dX2_fold_24 : decode cX2_fold 24 = .ok (.aload_n 0, 1) := by decide +kernel
theorem dX2_fold_25 : decode cX2_fold 25 = .ok (.getfield 21, 3) := by decide +kernel
theorem dX2_fold_28 : decode cX2_fold 28 = .ok (.aload_n 0, 1) := by decide +kernel
theorem dX2_fold_29 : decode cX2_fold 29 = .ok (.getfield 79, 3) := by decide +kernel
theorem dX2_fold_32 : decode cX2_fold 32 = .ok (.iconst 1, 1) := by decide +kernel
theorem dX2_fold_33 : decode cX2_fold 33 = .ok (.isub, 1) := by decide +kernel
theorem dX2_fold_34 : decode cX2_fold 34 = .ok (.iaload, 1) := by decide +kernel
theorem dX2_fold_35 : decode cX2_fold 35 = .ok (.iload_n 1, 1) := by decide +kernel
theorem dX2_fold_36 : decode cX2_fold 36 = .ok (.if_icmp .ne 31, 3) := by decide +kernel
theorem dX2_fold_39 : decode cX2_fold 39 = .ok (.aload_n 0, 1) := by decide +kernel
theorem dX2_fold_40 : decode cX2_fold 40 = .ok (.aload_n 0, 1) := by decide +kernel
theorem dX2_fold_41 : decode cX2_fold 41 = .ok (.getfield 21, 3) := by decide +kernel
theorem dX2_fold_44 : decode cX2_fold 44 = .ok (.aload_n 0, 1) := by decide +kernel
theorem dX2_fold_45 : decode cX2_fold 45 = .ok (.getfield 79, 3) := by decide +kernel
theorem dX2_fold_48 : decode cX2_fold 48 = .ok (.iconst 1, 1) := by decide +kernel
theorem dX2_fold_49 : decode cX2_fold 49 = .ok (.isub, 1) := by decide +kernel
theorem dX2_fold_50 : decode cX2_fold 50 = .ok (.iaload, 1) := by decide +kernel
theorem dX2_fold_51 : decode cX2_fold 51 = .ok (.invokevirtual 69, 3) := by decide +kernel
theorem dX2_fold_54 : decode cX2_fold 54 = .ok (.aload_n 0, 1) := by decide +kernel
theorem dX2_fold_55 : decode cX2_fold 55 = .ok (.dup, 1) := by decide +kernel
theorem dX2_fold_56 : decode cX2_fold 56 = .ok (.getfield 79, 3) := by decide +kernel
theorem dX2_fold_59 : decode cX2_fold 59 = .ok (.iconst 1, 1) := by decide +kernel
theorem dX2_fold_60 : decode cX2_fold 60 = .ok (.isub, 1) := by decide +kernel
theorem dX2_fold_61 : decode cX2_fold 61 = .ok (.putfield 79, 3) := by decide +kernel
theorem dX2_fold_64 : decode cX2_fold 64 = .ok (.goto (-64), 3) := by decide +kernel
theorem dX2_fold_67 : decode cX2_fold 67 = .ok (.return_, 1) := by decide +kernel
theorem dX2_hold_0 : decode cX2_hold 0 = .ok (.aload_n 0, 1) := by decide +kernel
theorem dX2_hold_1 : decode cX2_hold 1 = .ok (.getfield 79, 3) := by decide +kernel
theorem dX2_hold_4 : decode cX2_hold 4 = .ok (.aload_n 0, 1) := by decide +kernel
theorem dX2_hold_5 : decode cX2_hold 5 = .ok (.getfield 21, 3) := by decide +kernel
theorem dX2_hold_8 : decode cX2_hold 8 = .ok (.arraylength, 1) := by decide +kernel
theorem dX2_hold_9 : decode cX2_hold 9 = .ok (.if_icmp .ge 23, 3) := by decide +kernel
theorem dX2_hold_12 : decode cX2_hold 12 = .ok (.aload_n 0, 1) := by decide +kernel
theorem dX2_hold_13 : decode cX2_hold 13 = .ok (.getfield 21, 3) := by decide +kernel
theorem dX2_hold_16 : decode cX2_hold 16 = .ok (.aload_n 0, 1) := by decide +kernel
theorem dX2_hold_17 : decode cX2_hold 17 = .ok (.getfield 79, 3) := by decide +kernel
theorem dX2_hold_20 : decode cX2_hold 20 = .ok (.iload_n 1, 1) := by decide +kernel
theorem dX2_hold_21 : decode cX2_hold 21 = .ok (.iastore, 1) := by decide +kernel
theorem dX2_hold_22 : decode cX2_hold 22 = .ok (.aload_n 0, 1) := by decide +kernel
theorem dX2_hold_23 : decode cX2_hold 23 = .ok (.dup, 1) := by decide +kernel
theorem dX2_hold_24 : decode cX2_hold 24 = .ok (.getfield 79, 3) := by decide +kernel
theorem dX2_hold_27 : decode cX2_hold 27 = .ok (.iconst 1, 1) := by decide +kernel
theorem dX2_hold_28 : decode cX2_hold 28 = .ok (.iadd, 1) := by decide +kernel
theorem dX2_hold_29 : decode cX2_hold 29 = .ok (.putfield 79, 3) := by decide +kernel
theorem dX2_hold_32 : decode cX2_hold 32 = .ok (.return_, 1) := by decide +kernel
theorem dX2_join_0 : decode cX2_join 0 = .ok (.iload_n 0, 1) := by decide +kernel
theorem dX2_join_1 : decode cX2_join 1 = .ok (.lookupswitch 136 #[(42, 83), (43, 75), (45, 79), (47, 87), (60, 99), (61, 110), (62, 121), (259, 132)], 75) := by decide +kernel
theorem dX2_join_76 : decode cX2_join 76 = .ok (.iload_n 1, 1) := by decide +kernel
theorem dX2_join_77 : decode cX2_join 77 = .ok (.iload_n 2, 1) := by decide +kernel
theorem dX2_join_78 : decode cX2_join 78 = .ok (.iadd, 1) := by decide +kernel
theorem dX2_join_79 : decode cX2_join 79 = .ok (.ireturn, 1) := by decide +kernel
theorem dX2_join_80 : decode cX2_join 80 = .ok (.iload_n 1, 1) := by decide +kernel
theorem dX2_join_81 : decode cX2_join 81 = .ok (.iload_n 2, 1) := by decide +kernel
theorem dX2_join_82 : decode cX2_join 82 = .ok (.isub, 1) := by decide +kernel
theorem dX2_join_83 : decode cX2_join 83 = .ok (.ireturn, 1) := by decide +kernel
theorem dX2_join_84 : decode cX2_join 84 = .ok (.iload_n 1, 1) := by decide +kernel
theorem dX2_join_85 : decode cX2_join 85 = .ok (.iload_n 2, 1) := by decide +kernel
theorem dX2_join_86 : decode cX2_join 86 = .ok (.imul, 1) := by decide +kernel
theorem dX2_join_87 : decode cX2_join 87 = .ok (.ireturn, 1) := by decide +kernel
theorem dX2_join_88 : decode cX2_join 88 = .ok (.iload_n 2, 1) := by decide +kernel
theorem dX2_join_89 : decode cX2_join 89 = .ok (.ifCond .eq 9, 3) := by decide +kernel
theorem dX2_join_92 : decode cX2_join 92 = .ok (.iload_n 1, 1) := by decide +kernel
theorem dX2_join_93 : decode cX2_join 93 = .ok (.iload_n 2, 1) := by decide +kernel
theorem dX2_join_94 : decode cX2_join 94 = .ok (.idiv, 1) := by decide +kernel
theorem dX2_join_95 : decode cX2_join 95 = .ok (.goto 4, 3) := by decide +kernel
theorem dX2_join_98 : decode cX2_join 98 = .ok (.iconst 0, 1) := by decide +kernel
theorem dX2_join_99 : decode cX2_join 99 = .ok (.ireturn, 1) := by decide +kernel
theorem dX2_join_100 : decode cX2_join 100 = .ok (.iload_n 1, 1) := by decide +kernel
theorem dX2_join_101 : decode cX2_join 101 = .ok (.iload_n 2, 1) := by decide +kernel
theorem dX2_join_102 : decode cX2_join 102 = .ok (.if_icmp .ge 7, 3) := by decide +kernel
theorem dX2_join_105 : decode cX2_join 105 = .ok (.iconst 1, 1) := by decide +kernel
theorem dX2_join_106 : decode cX2_join 106 = .ok (.goto 4, 3) := by decide +kernel
theorem dX2_join_109 : decode cX2_join 109 = .ok (.iconst 0, 1) := by decide +kernel
theorem dX2_join_110 : decode cX2_join 110 = .ok (.ireturn, 1) := by decide +kernel
theorem dX2_join_111 : decode cX2_join 111 = .ok (.iload_n 1, 1) := by decide +kernel
theorem dX2_join_112 : decode cX2_join 112 = .ok (.iload_n 2, 1) := by decide +kernel
theorem dX2_join_113 : decode cX2_join 113 = .ok (.if_icmp .ne 7, 3) := by decide +kernel
theorem dX2_join_116 : decode cX2_join 116 = .ok (.iconst 1, 1) := by decide +kernel
theorem dX2_join_117 : decode cX2_join 117 = .ok (.goto 4, 3) := by decide +kernel
theorem dX2_join_120 : decode cX2_join 120 = .ok (.iconst 0, 1) := by decide +kernel
theorem dX2_join_121 : decode cX2_join 121 = .ok (.ireturn, 1) := by decide +kernel
theorem dX2_join_122 : decode cX2_join 122 = .ok (.iload_n 1, 1) := by decide +kernel
theorem dX2_join_123 : decode cX2_join 123 = .ok (.iload_n 2, 1) := by decide +kernel
theorem dX2_join_124 : decode cX2_join 124 = .ok (.if_icmp .le 7, 3) := by decide +kernel
theorem dX2_join_127 : decode cX2_join 127 = .ok (.iconst 1, 1) := by decide +kernel
theorem dX2_join_128 : decode cX2_join 128 = .ok (.goto 4, 3) := by decide +kernel
theorem dX2_join_131 : decode cX2_join 131 = .ok (.iconst 0, 1) := by decide +kernel
theorem dX2_join_132 : decode cX2_join 132 = .ok (.ireturn, 1) := by decide +kernel
theorem dX2_join_133 : decode cX2_join 133 = .ok (.iload_n 1, 1) := by decide +kernel
theorem dX2_join_134 : decode cX2_join 134 = .ok (.iload_n 2, 1) := by decide +kernel
theorem dX2_join_135 : decode cX2_join 135 = .ok (.iand, 1) := by decide +kernel
theorem dX2_join_136 : decode cX2_join 136 = .ok (.ireturn, 1) := by decide +kernel
theorem dX2_join_137 : decode cX2_join 137 = .ok (.iload_n 1, 1) := by decide +kernel
theorem dX2_join_138 : decode cX2_join 138 = .ok (.iload_n 2, 1) := by decide +kernel
theorem dX2_join_139 : decode cX2_join 139 = .ok (.ior, 1) := by decide +kernel
theorem dX2_join_140 : decode cX2_join 140 = .ok (.ireturn, 1) := by decide +kernel
theorem dX2_reading_0 : decode cX2_reading 0 = .ok (.iload_n 0, 1) := by decide +kernel
theorem dX2_reading_1 : decode cX2_reading 1 = .ok (.ifCond .lt 15, 3) := by decide +kernel
theorem dX2_reading_4 : decode cX2_reading 4 = .ok (.iload_n 0, 1) := by decide +kernel
theorem dX2_reading_5 : decode cX2_reading 5 = .ok (.aload_n 1, 1) := by decide +kernel
theorem dX2_reading_6 : decode cX2_reading 6 = .ok (.arraylength, 1) := by decide +kernel
theorem dX2_reading_7 : decode cX2_reading 7 = .ok (.if_icmp .ge 9, 3) := by decide +kernel
theorem dX2_reading_10 : decode cX2_reading 10 = .ok (.aload_n 1, 1) := by decide +kernel
theorem dX2_reading_11 : decode cX2_reading 11 = .ok (.iload_n 0, 1) := by decide +kernel
theorem dX2_reading_12 : decode cX2_reading 12 = .ok (.iaload, 1) := by decide +kernel
theorem dX2_reading_13 : decode cX2_reading 13 = .ok (.goto 4, 3) := by decide +kernel
theorem dX2_reading_16 : decode cX2_reading 16 = .ok (.iconst 0, 1) := by decide +kernel
theorem dX2_reading_17 : decode cX2_reading 17 = .ok (.ireturn, 1) := by decide +kernel
theorem dX2_take_0 : decode cX2_take 0 = .ok (.aload_n 1, 1) := by decide +kernel
theorem dX2_take_1 : decode cX2_take 1 = .ok (.getfield 9, 3) := by decide +kernel
theorem dX2_take_4 : decode cX2_take 4 = .ok (.iconst 0, 1) := by decide +kernel
theorem dX2_take_5 : decode cX2_take 5 = .ok (.aload_n 0, 1) := by decide +kernel
theorem dX2_take_6 : decode cX2_take 6 = .ok (.getfield 9, 3) := by decide +kernel
theorem dX2_take_9 : decode cX2_take 9 = .ok (.iconst 0, 1) := by decide +kernel
theorem dX2_take_10 : decode cX2_take 10 = .ok (.sipush 400, 3) := by decide +kernel
theorem dX2_take_13 : decode cX2_take 13 = .ok (.invokestatic 24, 3) := by decide +kernel
theorem dX2_take_16 : decode cX2_take 16 = .ok (.aload_n 1, 1) := by decide +kernel
theorem dX2_take_17 : decode cX2_take 17 = .ok (.getfield 15, 3) := by decide +kernel
theorem dX2_take_20 : decode cX2_take 20 = .ok (.iconst 0, 1) := by decide +kernel
theorem dX2_take_21 : decode cX2_take 21 = .ok (.aload_n 0, 1) := by decide +kernel
theorem dX2_take_22 : decode cX2_take 22 = .ok (.getfield 15, 3) := by decide +kernel
theorem dX2_take_25 : decode cX2_take 25 = .ok (.iconst 0, 1) := by decide +kernel
theorem dX2_take_26 : decode cX2_take 26 = .ok (.bipush 33, 2) := by decide +kernel
theorem dX2_take_28 : decode cX2_take 28 = .ok (.invokestatic 24, 3) := by decide +kernel
theorem dX2_take_31 : decode cX2_take 31 = .ok (.aload_n 0, 1) := by decide +kernel
theorem dX2_take_32 : decode cX2_take 32 = .ok (.aload_n 1, 1) := by decide +kernel
theorem dX2_take_33 : decode cX2_take 33 = .ok (.getfield 30, 3) := by decide +kernel
theorem dX2_take_36 : decode cX2_take 36 = .ok (.putfield 30, 3) := by decide +kernel
theorem dX2_take_39 : decode cX2_take 39 = .ok (.return_, 1) := by decide +kernel
theorem dX2_tells_0 : decode cX2_tells 0 = .ok (.iconst 0, 1) := by decide +kernel
theorem dX2_tells_1 : decode cX2_tells 1 = .ok (.istore_n 3, 1) := by decide +kernel
theorem dX2_tells_2 : decode cX2_tells 2 = .ok (.iload_n 3, 1) := by decide +kernel
theorem dX2_tells_3 : decode cX2_tells 3 = .ok (.aload_n 0, 1) := by decide +kernel
theorem dX2_tells_4 : decode cX2_tells 4 = .ok (.getfield 30, 3) := by decide +kernel
theorem dX2_tells_7 : decode cX2_tells 7 = .ok (.if_icmp .ge 74, 3) := by decide +kernel
theorem dX2_tells_10 : decode cX2_tells 10 = .ok (.iload_n 3, 1) := by decide +kernel
theorem dX2_tells_11 : decode cX2_tells 11 = .ok (.bipush 16, 2) := by decide +kernel
theorem dX2_tells_13 : decode cX2_tells 13 = .ok (.if_icmp .ge 68, 3) := by decide +kernel
theorem dX2_tells_16 : decode cX2_tells 16 = .ok (.aload_n 0, 1) := by decide +kernel
theorem dX2_tells_17 : decode cX2_tells 17 = .ok (.getfield 15, 3) := by decide +kernel
theorem dX2_tells_20 : decode cX2_tells 20 = .ok (.iconst 2, 1) := by decide +kernel
theorem dX2_tells_21 : decode cX2_tells 21 = .ok (.iload_n 3, 1) := by decide +kernel
theorem dX2_tells_22 : decode cX2_tells 22 = .ok (.imul, 1) := by decide +kernel
theorem dX2_tells_23 : decode cX2_tells 23 = .ok (.iconst 1, 1) := by decide +kernel
theorem dX2_tells_24 : decode cX2_tells 24 = .ok (.iadd, 1) := by decide +kernel
theorem dX2_tells_25 : decode cX2_tells 25 = .ok (.iaload, 1) := by decide +kernel
theorem dX2_tells_26 : decode cX2_tells 26 = .ok (.istore 4, 2) := by decide +kernel
theorem dX2_tells_28 : decode cX2_tells 28 = .ok (.aload_n 0, 1) := by decide +kernel
theorem dX2_tells_29 : decode cX2_tells 29 = .ok (.getfield 15, 3) := by decide +kernel
theorem dX2_tells_32 : decode cX2_tells 32 = .ok (.iconst 2, 1) := by decide +kernel
theorem dX2_tells_33 : decode cX2_tells 33 = .ok (.iload_n 3, 1) := by decide +kernel
theorem dX2_tells_34 : decode cX2_tells 34 = .ok (.imul, 1) := by decide +kernel
theorem dX2_tells_35 : decode cX2_tells 35 = .ok (.iconst 2, 1) := by decide +kernel
theorem dX2_tells_36 : decode cX2_tells 36 = .ok (.iadd, 1) := by decide +kernel
theorem dX2_tells_37 : decode cX2_tells 37 = .ok (.iaload, 1) := by decide +kernel
theorem dX2_tells_38 : decode cX2_tells 38 = .ok (.istore 5, 2) := by decide +kernel
theorem dX2_tells_40 : decode cX2_tells 40 = .ok (.iload 4, 2) := by decide +kernel
theorem dX2_tells_42 : decode cX2_tells 42 = .ok (.iload 5, 2) := by decide +kernel
theorem dX2_tells_44 : decode cX2_tells 44 = .ok (.if_icmp .eq 15, 3) := by decide +kernel
theorem dX2_tells_47 : decode cX2_tells 47 = .ok (.aload_n 0, 1) := by decide +kernel
theorem dX2_tells_48 : decode cX2_tells 48 = .ok (.iload 4, 2) := by decide +kernel
theorem dX2_tells_50 : decode cX2_tells 50 = .ok (.iload 5, 2) := by decide +kernel
theorem dX2_tells_52 : decode cX2_tells 52 = .ok (.aload_n 1, 1) := by decide +kernel
theorem dX2_tells_53 : decode cX2_tells 53 = .ok (.invokevirtual 107, 3) := by decide +kernel
theorem dX2_tells_56 : decode cX2_tells 56 = .ok (.ifCond .eq 19, 3) := by decide +kernel
theorem dX2_tells_59 : decode cX2_tells 59 = .ok (.aload_n 0, 1) := by decide +kernel
theorem dX2_tells_60 : decode cX2_tells 60 = .ok (.aload_n 0, 1) := by decide +kernel
theorem dX2_tells_61 : decode cX2_tells 61 = .ok (.getfield 15, 3) := by decide +kernel
theorem dX2_tells_64 : decode cX2_tells 64 = .ok (.iconst 2, 1) := by decide +kernel
theorem dX2_tells_65 : decode cX2_tells 65 = .ok (.iload_n 3, 1) := by decide +kernel
theorem dX2_tells_66 : decode cX2_tells 66 = .ok (.imul, 1) := by decide +kernel
theorem dX2_tells_67 : decode cX2_tells 67 = .ok (.iaload, 1) := by decide +kernel
theorem dX2_tells_68 : decode cX2_tells 68 = .ok (.iload 4, 2) := by decide +kernel
theorem dX2_tells_70 : decode cX2_tells 70 = .ok (.aload_n 1, 1) := by decide +kernel
theorem dX2_tells_71 : decode cX2_tells 71 = .ok (.invokevirtual 107, 3) := by decide +kernel
theorem dX2_tells_74 : decode cX2_tells 74 = .ok (.ireturn, 1) := by decide +kernel
theorem dX2_tells_75 : decode cX2_tells 75 = .ok (.iinc 3 1, 3) := by decide +kernel
theorem dX2_tells_78 : decode cX2_tells 78 = .ok (.goto (-76), 3) := by decide +kernel
theorem dX2_tells_81 : decode cX2_tells 81 = .ok (.iload_n 2, 1) := by decide +kernel
theorem dX2_tells_82 : decode cX2_tells 82 = .ok (.ireturn, 1) := by decide +kernel
theorem dX2_value_0 : decode cX2_value 0 = .ok (.iconst (-1), 1) := by decide +kernel
theorem dX2_value_1 : decode cX2_value 1 = .ok (.istore 4, 2) := by decide +kernel
theorem dX2_value_3 : decode cX2_value 3 = .ok (.iload_n 1, 1) := by decide +kernel
theorem dX2_value_4 : decode cX2_value 4 = .ok (.istore 5, 2) := by decide +kernel
theorem dX2_value_6 : decode cX2_value 6 = .ok (.iload 5, 2) := by decide +kernel
theorem dX2_value_8 : decode cX2_value 8 = .ok (.iload_n 2, 1) := by decide +kernel
theorem dX2_value_9 : decode cX2_value 9 = .ok (.if_icmp .ge 155, 3) := by decide +kernel
theorem dX2_value_12 : decode cX2_value 12 = .ok (.iload 5, 2) := by decide +kernel
theorem dX2_value_14 : decode cX2_value 14 = .ok (.sipush 400, 3) := by decide +kernel
theorem dX2_value_17 : decode cX2_value 17 = .ok (.if_icmp .ge 147, 3) := by decide +kernel
theorem dX2_value_20 : decode cX2_value 20 = .ok (.aload_n 0, 1) := by decide +kernel
theorem dX2_value_21 : decode cX2_value 21 = .ok (.getfield 9, 3) := by decide +kernel
theorem dX2_value_24 : decode cX2_value 24 = .ok (.iload 5, 2) := by decide +kernel
theorem dX2_value_26 : decode cX2_value 26 = .ok (.iaload, 1) := by decide +kernel
theorem dX2_value_27 : decode cX2_value 27 = .ok (.istore 6, 2) := by decide +kernel
theorem dX2_value_29 : decode cX2_value 29 = .ok (.iload 6, 2) := by decide +kernel
theorem dX2_value_31 : decode cX2_value 31 = .ok (.ifCond .lt 11, 3) := by decide +kernel
theorem dX2_value_34 : decode cX2_value 34 = .ok (.iload 6, 2) := by decide +kernel
theorem dX2_value_36 : decode cX2_value 36 = .ok (.sipush 261, 3) := by decide +kernel
theorem dX2_value_39 : decode cX2_value 39 = .ok (.if_icmp .lt 50, 3) := by decide +kernel
theorem dX2_value_42 : decode cX2_value 42 = .ok (.iload 4, 2) := by decide +kernel
theorem dX2_value_44 : decode cX2_value 44 = .ok (.iconst 1, 1) := by decide +kernel
theorem dX2_value_45 : decode cX2_value 45 = .ok (.iadd, 1) := by decide +kernel
theorem dX2_value_46 : decode cX2_value 46 = .ok (.aload_n 0, 1) := by decide +kernel
theorem dX2_value_47 : decode cX2_value 47 = .ok (.getfield 18, 3) := by decide +kernel
theorem dX2_value_50 : decode cX2_value 50 = .ok (.arraylength, 1) := by decide +kernel
theorem dX2_value_51 : decode cX2_value 51 = .ok (.if_icmp .ge 107, 3) := by decide +kernel
theorem dX2_value_54 : decode cX2_value 54 = .ok (.iinc 4 1, 3) := by decide +kernel
theorem dX2_value_57 : decode cX2_value 57 = .ok (.aload_n 0, 1) := by decide +kernel
theorem dX2_value_58 : decode cX2_value 58 = .ok (.getfield 18, 3) := by decide +kernel
theorem dX2_value_61 : decode cX2_value 61 = .ok (.iload 4, 2) := by decide +kernel
theorem dX2_value_63 : decode cX2_value 63 = .ok (.iload 6, 2) := by decide +kernel
theorem dX2_value_65 : decode cX2_value 65 = .ok (.ifCond .ge 10, 3) := by decide +kernel
theorem dX2_value_68 : decode cX2_value 68 = .ok (.iconst (-1), 1) := by decide +kernel
theorem dX2_value_69 : decode cX2_value 69 = .ok (.iload 6, 2) := by decide +kernel
theorem dX2_value_71 : decode cX2_value 71 = .ok (.isub, 1) := by decide +kernel
theorem dX2_value_72 : decode cX2_value 72 = .ok (.goto 13, 3) := by decide +kernel
theorem dX2_value_75 : decode cX2_value 75 = .ok (.iload 6, 2) := by decide +kernel
theorem dX2_value_77 : decode cX2_value 77 = .ok (.sipush 261, 3) := by decide +kernel
theorem dX2_value_80 : decode cX2_value 80 = .ok (.isub, 1) := by decide +kernel
theorem dX2_value_81 : decode cX2_value 81 = .ok (.aload_n 3, 1) := by decide +kernel
theorem dX2_value_82 : decode cX2_value 82 = .ok (.invokestatic 110, 3) := by decide +kernel
theorem dX2_value_85 : decode cX2_value 85 = .ok (.iastore, 1) := by decide +kernel
theorem dX2_value_86 : decode cX2_value 86 = .ok (.goto 72, 3) := by decide +kernel
theorem dX2_value_89 : decode cX2_value 89 = .ok (.iload 6, 2) := by decide +kernel
theorem dX2_value_91 : decode cX2_value 91 = .ok (.sipush 260, 3) := by decide +kernel
theorem dX2_value_94 : decode cX2_value 94 = .ok (.if_icmp .ne 27, 3) := by decide +kernel
theorem dX2_value_97 : decode cX2_value 97 = .ok (.iload 4, 2) := by decide +kernel
theorem dX2_value_99 : decode cX2_value 99 = .ok (.ifCond .lt 59, 3) := by decide +kernel
theorem dX2_value_102 : decode cX2_value 102 = .ok (.aload_n 0, 1) := by decide +kernel
theorem dX2_value_103 : decode cX2_value 103 = .ok (.getfield 18, 3) := by decide +kernel
theorem dX2_value_106 : decode cX2_value 106 = .ok (.iload 4, 2) := by decide +kernel
theorem dX2_value_108 : decode cX2_value 108 = .ok (.iconst 1, 1) := by decide +kernel
theorem dX2_value_109 : decode cX2_value 109 = .ok (.aload_n 0, 1) := by decide +kernel
theorem dX2_value_110 : decode cX2_value 110 = .ok (.getfield 18, 3) := by decide +kernel
theorem dX2_value_113 : decode cX2_value 113 = .ok (.iload 4, 2) := by decide +kernel
theorem dX2_value_115 : decode cX2_value 115 = .ok (.iaload, 1) := by decide +kernel
theorem dX2_value_116 : decode cX2_value 116 = .ok (.isub, 1) := by decide +kernel
theorem dX2_value_117 : decode cX2_value 117 = .ok (.iastore, 1) := by decide +kernel
theorem dX2_value_118 : decode cX2_value 118 = .ok (.goto 40, 3) := by decide +kernel
theorem dX2_value_121 : decode cX2_value 121 = .ok (.iload 4, 2) := by decide +kernel
theorem dX2_value_123 : decode cX2_value 123 = .ok (.iconst 1, 1) := by decide +kernel
theorem dX2_value_124 : decode cX2_value 124 = .ok (.if_icmp .lt 34, 3) := by decide +kernel
theorem dX2_value_127 : decode cX2_value 127 = .ok (.iinc 4 (-1), 3) := by decide +kernel
theorem dX2_value_130 : decode cX2_value 130 = .ok (.aload_n 0, 1) := by decide +kernel
theorem dX2_value_131 : decode cX2_value 131 = .ok (.getfield 18, 3) := by decide +kernel
theorem dX2_value_134 : decode cX2_value 134 = .ok (.iload 4, 2) := by decide +kernel
theorem dX2_value_136 : decode cX2_value 136 = .ok (.iload 6, 2) := by decide +kernel
theorem dX2_value_138 : decode cX2_value 138 = .ok (.aload_n 0, 1) := by decide +kernel
theorem dX2_value_139 : decode cX2_value 139 = .ok (.getfield 18, 3) := by decide +kernel
theorem dX2_value_142 : decode cX2_value 142 = .ok (.iload 4, 2) := by decide +kernel
theorem dX2_value_144 : decode cX2_value 144 = .ok (.iaload, 1) := by decide +kernel
theorem dX2_value_145 : decode cX2_value 145 = .ok (.aload_n 0, 1) := by decide +kernel
theorem dX2_value_146 : decode cX2_value 146 = .ok (.getfield 18, 3) := by decide +kernel
theorem dX2_value_149 : decode cX2_value 149 = .ok (.iload 4, 2) := by decide +kernel
theorem dX2_value_151 : decode cX2_value 151 = .ok (.iconst 1, 1) := by decide +kernel
theorem dX2_value_152 : decode cX2_value 152 = .ok (.iadd, 1) := by decide +kernel
theorem dX2_value_153 : decode cX2_value 153 = .ok (.iaload, 1) := by decide +kernel
theorem dX2_value_154 : decode cX2_value 154 = .ok (.invokestatic 114, 3) := by decide +kernel
theorem dX2_value_157 : decode cX2_value 157 = .ok (.iastore, 1) := by decide +kernel
theorem dX2_value_158 : decode cX2_value 158 = .ok (.iinc 5 1, 3) := by decide +kernel
theorem dX2_value_161 : decode cX2_value 161 = .ok (.goto (-155), 3) := by decide +kernel
theorem dX2_value_164 : decode cX2_value 164 = .ok (.iload 4, 2) := by decide +kernel
theorem dX2_value_166 : decode cX2_value 166 = .ok (.ifCond .lt 13, 3) := by decide +kernel
theorem dX2_value_169 : decode cX2_value 169 = .ok (.aload_n 0, 1) := by decide +kernel
theorem dX2_value_170 : decode cX2_value 170 = .ok (.getfield 18, 3) := by decide +kernel
theorem dX2_value_173 : decode cX2_value 173 = .ok (.iload 4, 2) := by decide +kernel
theorem dX2_value_175 : decode cX2_value 175 = .ok (.iaload, 1) := by decide +kernel
theorem dX2_value_176 : decode cX2_value 176 = .ok (.goto 4, 3) := by decide +kernel
theorem dX2_value_179 : decode cX2_value 179 = .ok (.iconst 0, 1) := by decide +kernel
theorem dX2_value_180 : decode cX2_value 180 = .ok (.ireturn, 1) := by decide +kernel
theorem dX5_apart_0 : decode cX5_apart 0 = .ok (.iload_n 1, 1) := by decide +kernel
theorem dX5_apart_1 : decode cX5_apart 1 = .ok (.ifCond .lt 19, 3) := by decide +kernel
theorem dX5_apart_4 : decode cX5_apart 4 = .ok (.iload_n 1, 1) := by decide +kernel
theorem dX5_apart_5 : decode cX5_apart 5 = .ok (.bipush 10, 2) := by decide +kernel
theorem dX5_apart_7 : decode cX5_apart 7 = .ok (.if_icmp .ge 13, 3) := by decide +kernel
theorem dX5_apart_10 : decode cX5_apart 10 = .ok (.iload_n 2, 1) := by decide +kernel
theorem dX5_apart_11 : decode cX5_apart 11 = .ok (.ifCond .lt 9, 3) := by decide +kernel
theorem dX5_apart_14 : decode cX5_apart 14 = .ok (.iload_n 2, 1) := by decide +kernel
theorem dX5_apart_15 : decode cX5_apart 15 = .ok (.bipush 10, 2) := by decide +kernel
theorem dX5_apart_17 : decode cX5_apart 17 = .ok (.if_icmp .lt 5, 3) := by decide +kernel
theorem dX5_apart_20 : decode cX5_apart 20 = .ok (.iconst (-1), 1) := by decide +kernel
theorem dX5_apart_21 : decode cX5_apart 21 = .ok (.ireturn, 1) := by decide +kernel
theorem dX5_apart_22 : decode cX5_apart 22 = .ok (.aload_n 0, 1) := by decide +kernel
theorem dX5_apart_23 : decode cX5_apart 23 = .ok (.getfield 27, 3) := by decide +kernel
theorem dX5_apart_26 : decode cX5_apart 26 = .ok (.iload_n 1, 1) := by decide +kernel
theorem dX5_apart_27 : decode cX5_apart 27 = .ok (.iaload, 1) := by decide +kernel
theorem dX5_apart_28 : decode cX5_apart 28 = .ok (.iload_n 3, 1) := by decide +kernel
theorem dX5_apart_29 : decode cX5_apart 29 = .ok (.if_icmp .eq 9, 3) := by decide +kernel
theorem dX5_apart_32 : decode cX5_apart 32 = .ok (.aload_n 0, 1) := by decide +kernel
theorem dX5_apart_33 : decode cX5_apart 33 = .ok (.iload_n 1, 1) := by decide +kernel
theorem dX5_apart_34 : decode cX5_apart 34 = .ok (.iload_n 3, 1) := by decide +kernel
theorem dX5_apart_35 : decode cX5_apart 35 = .ok (.invokevirtual 70, 3) := by decide +kernel
theorem dX5_apart_38 : decode cX5_apart 38 = .ok (.aload_n 0, 1) := by decide +kernel
theorem dX5_apart_39 : decode cX5_apart 39 = .ok (.getfield 24, 3) := by decide +kernel
theorem dX5_apart_42 : decode cX5_apart 42 = .ok (.iload_n 1, 1) := by decide +kernel
theorem dX5_apart_43 : decode cX5_apart 43 = .ok (.bipush 10, 2) := by decide +kernel
theorem dX5_apart_45 : decode cX5_apart 45 = .ok (.imul, 1) := by decide +kernel
theorem dX5_apart_46 : decode cX5_apart 46 = .ok (.iload_n 2, 1) := by decide +kernel
theorem dX5_apart_47 : decode cX5_apart 47 = .ok (.iadd, 1) := by decide +kernel
theorem dX5_apart_48 : decode cX5_apart 48 = .ok (.iaload, 1) := by decide +kernel
theorem dX5_apart_49 : decode cX5_apart 49 = .ok (.ireturn, 1) := by decide +kernel
theorem dX5_measureFrom_0 : decode cX5_measureFrom 0 = .ok (.iload_n 1, 1) := by decide +kernel
theorem dX5_measureFrom_1 : decode cX5_measureFrom 1 = .ok (.bipush 10, 2) := by decide +kernel
theorem dX5_measureFrom_3 : decode cX5_measureFrom 3 = .ok (.imul, 1) := by decide +kernel
theorem dX5_measureFrom_4 : decode cX5_measureFrom 4 = .ok (.istore_n 3, 1) := by decide +kernel
theorem dX5_measureFrom_5 : decode cX5_measureFrom 5 = .ok (.iconst 0, 1) := by decide +kernel
theorem dX5_measureFrom_6 : decode cX5_measureFrom 6 = .ok (.istore 4, 2) := by decide +kernel
theorem dX5_measureFrom_8 : decode cX5_measureFrom 8 = .ok (.iload 4, 2) := by decide +kernel
theorem dX5_measureFrom_10 : decode cX5_measureFrom 10 = .ok (.bipush 10, 2) := by decide +kernel
theorem dX5_measureFrom_12 : decode cX5_measureFrom 12 = .ok (.if_icmp .ge 19, 3) := by decide +kernel
theorem dX5_measureFrom_15 : decode cX5_measureFrom 15 = .ok (.aload_n 0, 1) := by decide +kernel
theorem dX5_measureFrom_16 : decode cX5_measureFrom 16 = .ok (.getfield 24, 3) := by decide +kernel
theorem dX5_measureFrom_19 : decode cX5_measureFrom 19 = .ok (.iload_n 3, 1) := by decide +kernel
theorem dX5_measureFrom_20 : decode cX5_measureFrom 20 = .ok (.iload 4, 2) := by decide +kernel
theorem dX5_measureFrom_22 : decode cX5_measureFrom 22 = .ok (.iadd, 1) := by decide +kernel
theorem dX5_measureFrom_23 : decode cX5_measureFrom 23 = .ok (.iconst (-1), 1) := by decide +kernel
theorem dX5_measureFrom_24 : decode cX5_measureFrom 24 = .ok (.iastore, 1) := by decide +kernel
theorem dX5_measureFrom_25 : decode cX5_measureFrom 25 = .ok (.iinc 4 1, 3) := by decide +kernel
theorem dX5_measureFrom_28 : decode cX5_measureFrom 28 = .ok (.goto (-20), 3) := by decide +kernel
theorem dX5_measureFrom_31 : decode cX5_measureFrom 31 = .ok (.aload_n 0, 1) := by decide +kernel
theorem dX5_measureFrom_32 : decode cX5_measureFrom 32 = .ok (.getfield 24, 3) := by decide +kernel
theorem dX5_measureFrom_35 : decode cX5_measureFrom 35 = .ok (.iload_n 3, 1) := by decide +kernel
theorem dX5_measureFrom_36 : decode cX5_measureFrom 36 = .ok (.iload_n 1, 1) := by decide +kernel
theorem dX5_measureFrom_37 : decode cX5_measureFrom 37 = .ok (.iadd, 1) := by decide +kernel
theorem dX5_measureFrom_38 : decode cX5_measureFrom 38 = .ok (.iconst 0, 1) := by decide +kernel
theorem dX5_measureFrom_39 : decode cX5_measureFrom 39 = .ok (.iastore, 1) := by decide +kernel
theorem dX5_measureFrom_40 : decode cX5_measureFrom 40 = .ok (.iconst 1, 1) := by decide +kernel
theorem dX5_measureFrom_41 : decode cX5_measureFrom 41 = .ok (.istore 4, 2) := by decide +kernel
theorem dX5_measureFrom_43 : decode cX5_measureFrom 43 = .ok (.iconst 0, 1) := by decide +kernel
theorem dX5_measureFrom_44 : decode cX5_measureFrom 44 = .ok (.istore 5, 2) := by decide +kernel
theorem dX5_measureFrom_46 : decode cX5_measureFrom 46 = .ok (.iload 5, 2) := by decide +kernel
theorem dX5_measureFrom_48 : decode cX5_measureFrom 48 = .ok (.bipush 10, 2) := by decide +kernel
theorem dX5_measureFrom_50 : decode cX5_measureFrom 50 = .ok (.if_icmp .ge 130, 3) := by decide +kernel
theorem dX5_measureFrom_53 : decode cX5_measureFrom 53 = .ok (.iload 4, 2) := by decide +kernel
theorem dX5_measureFrom_55 : decode cX5_measureFrom 55 = .ok (.ifCond .eq 125, 3) := by decide +kernel
theorem dX5_measureFrom_58 : decode cX5_measureFrom 58 = .ok (.iconst 0, 1) := by decide +kernel
theorem dX5_measureFrom_59 : decode cX5_measureFrom 59 = .ok (.istore 4, 2) := by decide +kernel
theorem dX5_measureFrom_61 : decode cX5_measureFrom 61 = .ok (.iconst 0, 1) := by decide +kernel
theorem dX5_measureFrom_62 : decode cX5_measureFrom 62 = .ok (.istore 6, 2) := by decide +kernel
theorem dX5_measureFrom_64 : decode cX5_measureFrom 64 = .ok (.iload 6, 2) := by decide +kernel
theorem dX5_measureFrom_66 : decode cX5_measureFrom 66 = .ok (.aload_n 0, 1) := by decide +kernel
theorem dX5_measureFrom_67 : decode cX5_measureFrom 67 = .ok (.getfield 36, 3) := by decide +kernel
theorem dX5_measureFrom_70 : decode cX5_measureFrom 70 = .ok (.if_icmp .ge 104, 3) := by decide +kernel
theorem dX5_measureFrom_73 : decode cX5_measureFrom 73 = .ok (.iload_n 2, 1) := by decide +kernel
theorem dX5_measureFrom_74 : decode cX5_measureFrom 74 = .ok (.aload_n 0, 1) := by decide +kernel
theorem dX5_measureFrom_75 : decode cX5_measureFrom 75 = .ok (.getfield 21, 3) := by decide +kernel
theorem dX5_measureFrom_78 : decode cX5_measureFrom 78 = .ok (.iload 6, 2) := by decide +kernel
theorem dX5_measureFrom_80 : decode cX5_measureFrom 80 = .ok (.iaload, 1) := by decide +kernel
theorem dX5_measureFrom_81 : decode cX5_measureFrom 81 = .ok (.if_icmp .gt 87, 3) := by decide +kernel
theorem dX5_measureFrom_84 : decode cX5_measureFrom 84 = .ok (.aload_n 0, 1) := by decide +kernel
theorem dX5_measureFrom_85 : decode cX5_measureFrom 85 = .ok (.iload_n 3, 1) := by decide +kernel
theorem dX5_measureFrom_86 : decode cX5_measureFrom 86 = .ok (.aload_n 0, 1) := by decide +kernel
theorem dX5_measureFrom_87 : decode cX5_measureFrom 87 = .ok (.getfield 9, 3) := by decide +kernel
theorem dX5_measureFrom_90 : decode cX5_measureFrom 90 = .ok (.iload 6, 2) := by decide +kernel
theorem dX5_measureFrom_92 : decode cX5_measureFrom 92 = .ok (.iaload, 1) := by decide +kernel
theorem dX5_measureFrom_93 : decode cX5_measureFrom 93 = .ok (.iadd, 1) := by decide +kernel
theorem dX5_measureFrom_94 : decode cX5_measureFrom 94 = .ok (.iload_n 3, 1) := by decide +kernel
theorem dX5_measureFrom_95 : decode cX5_measureFrom 95 = .ok (.aload_n 0, 1) := by decide +kernel
theorem dX5_measureFrom_96 : decode cX5_measureFrom 96 = .ok (.getfield 15, 3) := by decide +kernel
theorem dX5_measureFrom_99 : decode cX5_measureFrom 99 = .ok (.iload 6, 2) := by decide +kernel
theorem dX5_measureFrom_101 : decode cX5_measureFrom 101 = .ok (.iaload, 1) := by decide +kernel
theorem dX5_measureFrom_102 : decode cX5_measureFrom 102 = .ok (.iadd, 1) := by decide +kernel
theorem dX5_measureFrom_103 : decode cX5_measureFrom 103 = .ok (.aload_n 0, 1) := by decide +kernel
theorem dX5_measureFrom_104 : decode cX5_measureFrom 104 = .ok (.getfield 18, 3) := by decide +kernel
theorem dX5_measureFrom_107 : decode cX5_measureFrom 107 = .ok (.iload 6, 2) := by decide +kernel
theorem dX5_measureFrom_109 : decode cX5_measureFrom 109 = .ok (.iaload, 1) := by decide +kernel
theorem dX5_measureFrom_110 : decode cX5_measureFrom 110 = .ok (.invokevirtual 74, 3) := by decide +kernel
theorem dX5_measureFrom_113 : decode cX5_measureFrom 113 = .ok (.istore 7, 2) := by decide +kernel
theorem dX5_measureFrom_115 : decode cX5_measureFrom 115 = .ok (.aload_n 0, 1) := by decide +kernel
theorem dX5_measureFrom_116 : decode cX5_measureFrom 116 = .ok (.iload_n 3, 1) := by decide +kernel
theorem dX5_measureFrom_117 : decode cX5_measureFrom 117 = .ok (.aload_n 0, 1) := by decide +kernel
theorem dX5_measureFrom_118 : decode cX5_measureFrom 118 = .ok (.getfield 15, 3) := by decide +kernel
theorem dX5_measureFrom_121 : decode cX5_measureFrom 121 = .ok (.iload 6, 2) := by decide +kernel
theorem dX5_measureFrom_123 : decode cX5_measureFrom 123 = .ok (.iaload, 1) := by decide +kernel
theorem dX5_measureFrom_124 : decode cX5_measureFrom 124 = .ok (.iadd, 1) := by decide +kernel
theorem dX5_measureFrom_125 : decode cX5_measureFrom 125 = .ok (.iload_n 3, 1) := by decide +kernel
theorem dX5_measureFrom_126 : decode cX5_measureFrom 126 = .ok (.aload_n 0, 1) := by decide +kernel
theorem dX5_measureFrom_127 : decode cX5_measureFrom 127 = .ok (.getfield 9, 3) := by decide +kernel
theorem dX5_measureFrom_130 : decode cX5_measureFrom 130 = .ok (.iload 6, 2) := by decide +kernel
theorem dX5_measureFrom_132 : decode cX5_measureFrom 132 = .ok (.iaload, 1) := by decide +kernel
theorem dX5_measureFrom_133 : decode cX5_measureFrom 133 = .ok (.iadd, 1) := by decide +kernel
theorem dX5_measureFrom_134 : decode cX5_measureFrom 134 = .ok (.aload_n 0, 1) := by decide +kernel
theorem dX5_measureFrom_135 : decode cX5_measureFrom 135 = .ok (.getfield 18, 3) := by decide +kernel
theorem dX5_measureFrom_138 : decode cX5_measureFrom 138 = .ok (.iload 6, 2) := by decide +kernel
theorem dX5_measureFrom_140 : decode cX5_measureFrom 140 = .ok (.iaload, 1) := by decide +kernel
theorem dX5_measureFrom_141 : decode cX5_measureFrom 141 = .ok (.invokevirtual 74, 3) := by decide +kernel
theorem dX5_measureFrom_144 : decode cX5_measureFrom 144 = .ok (.istore 8, 2) := by decide +kernel
theorem dX5_measureFrom_146 : decode cX5_measureFrom 146 = .ok (.iload 4, 2) := by decide +kernel
theorem dX5_measureFrom_148 : decode cX5_measureFrom 148 = .ok (.ifCond .ne 13, 3) := by decide +kernel
theorem dX5_measureFrom_151 : decode cX5_measureFrom 151 = .ok (.iload 7, 2) := by decide +kernel
theorem dX5_measureFrom_153 : decode cX5_measureFrom 153 = .ok (.ifCond .ne 8, 3) := by decide +kernel
theorem dX5_measureFrom_156 : decode cX5_measureFrom 156 = .ok (.iload 8, 2) := by decide +kernel
theorem dX5_measureFrom_158 : decode cX5_measureFrom 158 = .ok (.ifCond .eq 7, 3) := by decide +kernel
theorem dX5_measureFrom_161 : decode cX5_measureFrom 161 = .ok (.iconst 1, 1) := by decide +kernel
theorem dX5_measureFrom_162 : decode cX5_measureFrom 162 = .ok (.goto 4, 3) := by decide +kernel
theorem dX5_measureFrom_165 : decode cX5_measureFrom 165 = .ok (.iconst 0, 1) := by decide +kernel
theorem dX5_measureFrom_166 : decode cX5_measureFrom 166 = .ok (.istore 4, 2) := by decide +kernel
theorem dX5_measureFrom_168 : decode cX5_measureFrom 168 = .ok (.iinc 6 1, 3) := by decide +kernel
theorem dX5_measureFrom_171 : decode cX5_measureFrom 171 = .ok (.goto (-107), 3) := by decide +kernel
theorem dX5_measureFrom_174 : decode cX5_measureFrom 174 = .ok (.iinc 5 1, 3) := by decide +kernel
theorem dX5_measureFrom_177 : decode cX5_measureFrom 177 = .ok (.goto (-131), 3) := by decide +kernel
theorem dX5_measureFrom_180 : decode cX5_measureFrom 180 = .ok (.aload_n 0, 1) := by decide +kernel
theorem dX5_measureFrom_181 : decode cX5_measureFrom 181 = .ok (.getfield 27, 3) := by decide +kernel
theorem dX5_measureFrom_184 : decode cX5_measureFrom 184 = .ok (.iload_n 1, 1) := by decide +kernel
theorem dX5_measureFrom_185 : decode cX5_measureFrom 185 = .ok (.iload_n 2, 1) := by decide +kernel
theorem dX5_measureFrom_186 : decode cX5_measureFrom 186 = .ok (.iastore, 1) := by decide +kernel
theorem dX5_measureFrom_187 : decode cX5_measureFrom 187 = .ok (.return_, 1) := by decide +kernel
theorem dX5_shorten_0 : decode cX5_shorten 0 = .ok (.aload_n 0, 1) := by decide +kernel
theorem dX5_shorten_1 : decode cX5_shorten 1 = .ok (.getfield 24, 3) := by decide +kernel
theorem dX5_shorten_4 : decode cX5_shorten 4 = .ok (.iload_n 1, 1) := by decide +kernel
theorem dX5_shorten_5 : decode cX5_shorten 5 = .ok (.iaload, 1) := by decide +kernel
theorem dX5_shorten_6 : decode cX5_shorten 6 = .ok (.iconst (-1), 1) := by decide +kernel
theorem dX5_shorten_7 : decode cX5_shorten 7 = .ok (.if_icmp .ne 5, 3) := by decide +kernel
theorem dX5_shorten_10 : decode cX5_shorten 10 = .ok (.iconst 0, 1) := by decide +kernel
theorem dX5_shorten_11 : decode cX5_shorten 11 = .ok (.ireturn, 1) := by decide +kernel
theorem dX5_shorten_12 : decode cX5_shorten 12 = .ok (.aload_n 0, 1) := by decide +kernel
theorem dX5_shorten_13 : decode cX5_shorten 13 = .ok (.getfield 24, 3) := by decide +kernel
theorem dX5_shorten_16 : decode cX5_shorten 16 = .ok (.iload_n 1, 1) := by decide +kernel
theorem dX5_shorten_17 : decode cX5_shorten 17 = .ok (.iaload, 1) := by decide +kernel
theorem dX5_shorten_18 : decode cX5_shorten 18 = .ok (.iload_n 3, 1) := by decide +kernel
theorem dX5_shorten_19 : decode cX5_shorten 19 = .ok (.iadd, 1) := by decide +kernel
theorem dX5_shorten_20 : decode cX5_shorten 20 = .ok (.istore 4, 2) := by decide +kernel
theorem dX5_shorten_22 : decode cX5_shorten 22 = .ok (.aload_n 0, 1) := by decide +kernel
theorem dX5_shorten_23 : decode cX5_shorten 23 = .ok (.getfield 24, 3) := by decide +kernel
theorem dX5_shorten_26 : decode cX5_shorten 26 = .ok (.iload_n 2, 1) := by decide +kernel
theorem dX5_shorten_27 : decode cX5_shorten 27 = .ok (.iaload, 1) := by decide +kernel
theorem dX5_shorten_28 : decode cX5_shorten 28 = .ok (.iconst (-1), 1) := by decide +kernel
theorem dX5_shorten_29 : decode cX5_shorten 29 = .ok (.if_icmp .eq 16, 3) := by decide +kernel
theorem dX5_shorten_32 : decode cX5_shorten 32 = .ok (.aload_n 0, 1) := by decide +kernel
theorem dX5_shorten_33 : decode cX5_shorten 33 = .ok (.getfield 24, 3) := by decide +kernel
theorem dX5_shorten_36 : decode cX5_shorten 36 = .ok (.iload_n 2, 1) := by decide +kernel
theorem dX5_shorten_37 : decode cX5_shorten 37 = .ok (.iaload, 1) := by decide +kernel
theorem dX5_shorten_38 : decode cX5_shorten 38 = .ok (.iload 4, 2) := by decide +kernel
theorem dX5_shorten_40 : decode cX5_shorten 40 = .ok (.if_icmp .gt 5, 3) := by decide +kernel
theorem dX5_shorten_43 : decode cX5_shorten 43 = .ok (.iconst 0, 1) := by decide +kernel
theorem dX5_shorten_44 : decode cX5_shorten 44 = .ok (.ireturn, 1) := by decide +kernel
theorem dX5_shorten_45 : decode cX5_shorten 45 = .ok (.aload_n 0, 1) := by decide +kernel
theorem dX5_shorten_46 : decode cX5_shorten 46 = .ok (.getfield 24, 3) := by decide +kernel
theorem dX5_shorten_49 : decode cX5_shorten 49 = .ok (.iload_n 2, 1) := by decide +kernel
theorem dX5_shorten_50 : decode cX5_shorten 50 = .ok (.iload 4, 2) := by decide +kernel
theorem dX5_shorten_52 : decode cX5_shorten 52 = .ok (.iastore, 1) := by decide +kernel
theorem dX5_shorten_53 : decode cX5_shorten 53 = .ok (.iconst 1, 1) := by decide +kernel
theorem dX5_shorten_54 : decode cX5_shorten 54 = .ok (.ireturn, 1) := by decide +kernel
theorem dX5_take_0 : decode cX5_take 0 = .ok (.aload_n 1, 1) := by decide +kernel
theorem dX5_take_1 : decode cX5_take 1 = .ok (.getfield 9, 3) := by decide +kernel
theorem dX5_take_4 : decode cX5_take 4 = .ok (.iconst 0, 1) := by decide +kernel
theorem dX5_take_5 : decode cX5_take 5 = .ok (.aload_n 0, 1) := by decide +kernel
theorem dX5_take_6 : decode cX5_take 6 = .ok (.getfield 9, 3) := by decide +kernel
theorem dX5_take_9 : decode cX5_take 9 = .ok (.iconst 0, 1) := by decide +kernel
theorem dX5_take_10 : decode cX5_take 10 = .ok (.bipush 40, 2) := by decide +kernel
theorem dX5_take_12 : decode cX5_take 12 = .ok (.invokestatic 30, 3) := by decide +kernel
theorem dX5_take_15 : decode cX5_take 15 = .ok (.aload_n 1, 1) := by decide +kernel
theorem dX5_take_16 : decode cX5_take 16 = .ok (.getfield 15, 3) := by decide +kernel
theorem dX5_take_19 : decode cX5_take 19 = .ok (.iconst 0, 1) := by decide +kernel
theorem dX5_take_20 : decode cX5_take 20 = .ok (.aload_n 0, 1) := by decide +kernel
theorem dX5_take_21 : decode cX5_take 21 = .ok (.getfield 15, 3) := by decide +kernel
theorem dX5_take_24 : decode cX5_take 24 = .ok (.iconst 0, 1) := by decide +kernel
theorem dX5_take_25 : decode cX5_take 25 = .ok (.bipush 40, 2) := by decide +kernel
theorem dX5_take_27 : decode cX5_take 27 = .ok (.invokestatic 30, 3) := by decide +kernel
theorem dX5_take_30 : decode cX5_take 30 = .ok (.aload_n 1, 1) := by decide +kernel
theorem dX5_take_31 : decode cX5_take 31 = .ok (.getfield 18, 3) := by decide +kernel
theorem dX5_take_34 : decode cX5_take 34 = .ok (.iconst 0, 1) := by decide +kernel
theorem dX5_take_35 : decode cX5_take 35 = .ok (.aload_n 0, 1) := by decide +kernel
theorem dX5_take_36 : decode cX5_take 36 = .ok (.getfield 18, 3) := by decide +kernel
theorem dX5_take_39 : decode cX5_take 39 = .ok (.iconst 0, 1) := by decide +kernel
theorem dX5_take_40 : decode cX5_take 40 = .ok (.bipush 40, 2) := by decide +kernel
theorem dX5_take_42 : decode cX5_take 42 = .ok (.invokestatic 30, 3) := by decide +kernel
theorem dX5_take_45 : decode cX5_take 45 = .ok (.aload_n 1, 1) := by decide +kernel
theorem dX5_take_46 : decode cX5_take 46 = .ok (.getfield 21, 3) := by decide +kernel
theorem dX5_take_49 : decode cX5_take 49 = .ok (.iconst 0, 1) := by decide +kernel
theorem dX5_take_50 : decode cX5_take 50 = .ok (.aload_n 0, 1) := by decide +kernel
theorem dX5_take_51 : decode cX5_take 51 = .ok (.getfield 21, 3) := by decide +kernel
theorem dX5_take_54 : decode cX5_take 54 = .ok (.iconst 0, 1) := by decide +kernel
theorem dX5_take_55 : decode cX5_take 55 = .ok (.bipush 40, 2) := by decide +kernel
theorem dX5_take_57 : decode cX5_take 57 = .ok (.invokestatic 30, 3) := by decide +kernel
theorem dX5_take_60 : decode cX5_take 60 = .ok (.aload_n 0, 1) := by decide +kernel
theorem dX5_take_61 : decode cX5_take 61 = .ok (.aload_n 1, 1) := by decide +kernel
theorem dX5_take_62 : decode cX5_take 62 = .ok (.getfield 36, 3) := by decide +kernel
theorem dX5_take_65 : decode cX5_take 65 = .ok (.putfield 36, 3) := by decide +kernel
theorem dX5_take_68 : decode cX5_take 68 = .ok (.iconst 0, 1) := by decide +kernel
theorem dX5_take_69 : decode cX5_take 69 = .ok (.istore_n 2, 1) := by decide +kernel
theorem dX5_take_70 : decode cX5_take 70 = .ok (.iload_n 2, 1) := by decide +kernel
theorem dX5_take_71 : decode cX5_take 71 = .ok (.bipush 10, 2) := by decide +kernel
theorem dX5_take_73 : decode cX5_take 73 = .ok (.if_icmp .ge 16, 3) := by decide +kernel
theorem dX5_take_76 : decode cX5_take 76 = .ok (.aload_n 0, 1) := by decide +kernel
theorem dX5_take_77 : decode cX5_take 77 = .ok (.getfield 27, 3) := by decide +kernel
theorem dX5_take_80 : decode cX5_take 80 = .ok (.iload_n 2, 1) := by decide +kernel
theorem dX5_take_81 : decode cX5_take 81 = .ok (.iconst (-1), 1) := by decide +kernel
theorem dX5_take_82 : decode cX5_take 82 = .ok (.iastore, 1) := by decide +kernel
theorem dX5_take_83 : decode cX5_take 83 = .ok (.iinc 2 1, 3) := by decide +kernel
theorem dX5_take_86 : decode cX5_take 86 = .ok (.goto (-16), 3) := by decide +kernel
theorem dX5_take_89 : decode cX5_take 89 = .ok (.return_, 1) := by decide +kernel
theorem dX7_take_0 : decode cX7_take 0 = .ok (.aload_n 1, 1) := by decide +kernel
theorem dX7_take_1 : decode cX7_take 1 = .ok (.getfield 9, 3) := by decide +kernel
theorem dX7_take_4 : decode cX7_take 4 = .ok (.iconst 0, 1) := by decide +kernel
theorem dX7_take_5 : decode cX7_take 5 = .ok (.aload_n 0, 1) := by decide +kernel
theorem dX7_take_6 : decode cX7_take 6 = .ok (.getfield 9, 3) := by decide +kernel
theorem dX7_take_9 : decode cX7_take 9 = .ok (.iconst 0, 1) := by decide +kernel
theorem dX7_take_10 : decode cX7_take 10 = .ok (.sipush 200, 3) := by decide +kernel
theorem dX7_take_13 : decode cX7_take 13 = .ok (.invokestatic 21, 3) := by decide +kernel
theorem dX7_take_16 : decode cX7_take 16 = .ok (.aload_n 0, 1) := by decide +kernel
theorem dX7_take_17 : decode cX7_take 17 = .ok (.aload_n 1, 1) := by decide +kernel
theorem dX7_take_18 : decode cX7_take 18 = .ok (.getfield 27, 3) := by decide +kernel
theorem dX7_take_21 : decode cX7_take 21 = .ok (.putfield 27, 3) := by decide +kernel
theorem dX7_take_24 : decode cX7_take 24 = .ok (.return_, 1) := by decide +kernel
theorem q_1020 : Cond.methodLink RX5 70 yX5_measureFrom ∈ GW := inG 1020 (by decide +kernel) (by decide +kernel)
theorem q_1022 : Cond.instanceMethod yX5_measureFrom ∈ GW := inG 1022 (by decide +kernel) (by decide +kernel)
theorem q_1023 : Cond.code yX5_measureFrom cX5_measureFrom 9 none ∈ GW := inG 1023 (by decide +kernel) (by decide +kernel)
theorem q_1024 : Cond.methodLink RX5 74 yX5_shorten ∈ GW := inG 1024 (by decide +kernel) (by decide +kernel)
theorem q_1026 : Cond.instanceMethod yX5_shorten ∈ GW := inG 1026 (by decide +kernel) (by decide +kernel)
theorem q_1027 : Cond.code yX5_shorten cX5_shorten 5 (some .boolean) ∈ GW := inG 1027 (by decide +kernel) (by decide +kernel)
theorem q_1052 : Cond.methodLink RX2 107 yX2_value ∈ GW := inG 1052 (by decide +kernel) (by decide +kernel)
theorem q_1054 : Cond.instanceMethod yX2_value ∈ GW := inG 1054 (by decide +kernel) (by decide +kernel)
theorem q_1055 : Cond.code yX2_value cX2_value 7 (some .int) ∈ GW := inG 1055 (by decide +kernel) (by decide +kernel)
theorem q_1056 : Cond.methodLink RX2 110 yX2_reading ∈ GW := inG 1056 (by decide +kernel) (by decide +kernel)
theorem q_1057 : Cond.static yX2_reading ∈ GW := inG 1057 (by decide +kernel) (by decide +kernel)
theorem q_1058 : Cond.code yX2_reading cX2_reading 2 (some .int) ∈ GW := inG 1058 (by decide +kernel) (by decide +kernel)
theorem q_1059 : Cond.methodLink RX2 114 yX2_join ∈ GW := inG 1059 (by decide +kernel) (by decide +kernel)
theorem q_1060 : Cond.static yX2_join ∈ GW := inG 1060 (by decide +kernel) (by decide +kernel)
theorem q_1061 : Cond.code yX2_join cX2_join 3 (some .int) ∈ GW := inG 1061 (by decide +kernel) (by decide +kernel)
theorem q_1119 : Cond.methodLink RX1 72 yX1_sees ∈ GW := inG 1119 (by decide +kernel) (by decide +kernel)
theorem q_1121 : Cond.instanceMethod yX1_sees ∈ GW := inG 1121 (by decide +kernel) (by decide +kernel)
theorem q_1122 : Cond.code yX1_sees cX1_sees 5 (some .boolean) ∈ GW := inG 1122 (by decide +kernel) (by decide +kernel)
theorem q_1123 : Cond.methodLink RX1 76 yJ9_abs_0f7a4 ∈ GW := inG 1123 (by decide +kernel) (by decide +kernel)
theorem q_1124 : Cond.static yJ9_abs_0f7a4 ∈ GW := inG 1124 (by decide +kernel) (by decide +kernel)
theorem q_1125 : Cond.code yJ9_abs_0f7a4 cJ9_abs_0f7a4 1 (some .int) ∈ GW := inG 1125 (by decide +kernel) (by decide +kernel)
theorem q_1126 : Cond.methodLink RX1 79 yX1_isBetween ∈ GW := inG 1126 (by decide +kernel) (by decide +kernel)
theorem q_1127 : Cond.static yX1_isBetween ∈ GW := inG 1127 (by decide +kernel) (by decide +kernel)
theorem q_1128 : Cond.code yX1_isBetween cX1_isBetween 9 (some .boolean) ∈ GW := inG 1128 (by decide +kernel) (by decide +kernel)
theorem q_1254 : Cond.methodLink RX1 33 arraycopyName ∈ GW := inG 1254 (by decide +kernel) (by decide +kernel)
theorem q_1255 : Cond.methodLink RX1 43 yX1_leastUnenvying ∈ GW := inG 1255 (by decide +kernel) (by decide +kernel)
theorem q_1257 : Cond.instanceMethod yX1_leastUnenvying ∈ GW := inG 1257 (by decide +kernel) (by decide +kernel)
theorem q_1258 : Cond.code yX1_leastUnenvying cX1_leastUnenvying 6 (some .int) ∈ GW := inG 1258 (by decide +kernel) (by decide +kernel)
theorem q_1259 : Cond.methodLink RX1 47 yJ9_max_7cf53 ∈ GW := inG 1259 (by decide +kernel) (by decide +kernel)
theorem q_1268 : Cond.methodLink RX1 52 yX1_countPairs ∈ GW := inG 1268 (by decide +kernel) (by decide +kernel)
theorem q_1270 : Cond.instanceMethod yX1_countPairs ∈ GW := inG 1270 (by decide +kernel) (by decide +kernel)
theorem q_1271 : Cond.code yX1_countPairs cX1_countPairs 3 none ∈ GW := inG 1271 (by decide +kernel) (by decide +kernel)
theorem q_1272 : Cond.methodLink RX1 69 yX1_mostPairs ∈ GW := inG 1272 (by decide +kernel) (by decide +kernel)
theorem q_1274 : Cond.instanceMethod yX1_mostPairs ∈ GW := inG 1274 (by decide +kernel) (by decide +kernel)
theorem q_1275 : Cond.code yX1_mostPairs cX1_mostPairs 6 (some .int) ∈ GW := inG 1275 (by decide +kernel) (by decide +kernel)
theorem q_1276 : Cond.methodLink RX1 62 yX1_pairsIn ∈ GW := inG 1276 (by decide +kernel) (by decide +kernel)
theorem q_1278 : Cond.instanceMethod yX1_pairsIn ∈ GW := inG 1278 (by decide +kernel) (by decide +kernel)
theorem q_1279 : Cond.code yX1_pairsIn cX1_pairsIn 2 (some .int) ∈ GW := inG 1279 (by decide +kernel) (by decide +kernel)
theorem q_1280 : Cond.methodLink RX1 55 yX1_all ∈ GW := inG 1280 (by decide +kernel) (by decide +kernel)
theorem q_1281 : Cond.instanceMethod yX1_all ∈ GW := inG 1281 (by decide +kernel) (by decide +kernel)
theorem q_1282 : Cond.selects RX1 yX1_all yX1_all ∈ GW := inG 1282 (by decide +kernel) (by decide +kernel)
theorem q_1283 : Cond.code yX1_all cX1_all 1 (some .int) ∈ GW := inG 1283 (by decide +kernel) (by decide +kernel)
theorem q_1284 : Cond.methodLink RX1 59 yX1_firstPartner ∈ GW := inG 1284 (by decide +kernel) (by decide +kernel)
theorem q_1286 : Cond.instanceMethod yX1_firstPartner ∈ GW := inG 1286 (by decide +kernel) (by decide +kernel)
theorem q_1287 : Cond.code yX1_firstPartner cX1_firstPartner 5 (some .int) ∈ GW := inG 1287 (by decide +kernel) (by decide +kernel)
theorem q_154 : Cond.initialized RX1 ∈ GW := inG 154 (by decide +kernel) (by decide +kernel)
theorem q_155 : Cond.initialized RX5 ∈ GW := inG 155 (by decide +kernel) (by decide +kernel)
theorem q_157 : Cond.initialized RX2 ∈ GW := inG 157 (by decide +kernel) (by decide +kernel)
theorem q_167 : Cond.initialized "java/lang/Math" ∈ GW := inG 167 (by decide +kernel) (by decide +kernel)
theorem q_21 : Cond.selects RX5 yX5_measureFrom yX5_measureFrom ∈ GW := inG 21 (by decide +kernel) (by decide +kernel)
theorem q_22 : Cond.selects RX5 yX5_shorten yX5_shorten ∈ GW := inG 22 (by decide +kernel) (by decide +kernel)
theorem q_24 : Cond.selects RX2 yX2_value yX2_value ∈ GW := inG 24 (by decide +kernel) (by decide +kernel)
theorem q_266 : Cond.fieldLink RX1 9 "LampRound$Houses" "place" "[I" ∈ GW := inG 266 (by decide +kernel) (by decide +kernel)
theorem q_268 : Cond.fieldLink RX1 15 "LampRound$Houses" "people" "[I" ∈ GW := inG 268 (by decide +kernel) (by decide +kernel)
theorem q_271 : Cond.fieldLink RX1 18 "LampRound$Houses" "bid" "[I" ∈ GW := inG 271 (by decide +kernel) (by decide +kernel)
theorem q_274 : Cond.fieldLink RX1 21 "LampRound$Houses" "says" "[I" ∈ GW := inG 274 (by decide +kernel) (by decide +kernel)
theorem q_277 : Cond.fieldLink RX1 24 "LampRound$Houses" "friendSet" "[I" ∈ GW := inG 277 (by decide +kernel) (by decide +kernel)
theorem q_281 : Cond.fieldLink RX1 39 "LampRound$Houses" "count" "I" ∈ GW := inG 281 (by decide +kernel) (by decide +kernel)
theorem q_284 : Cond.fieldLink RX1 27 "LampRound$Houses" "mended" "[I" ∈ GW := inG 284 (by decide +kernel) (by decide +kernel)
theorem q_286 : Cond.fieldLink RX1 30 "LampRound$Houses" "partner" "[I" ∈ GW := inG 286 (by decide +kernel) (by decide +kernel)
theorem q_288 : Cond.fieldLink RX1 66 "LampRound$Houses" "pairs" "[I" ∈ GW := inG 288 (by decide +kernel) (by decide +kernel)
theorem q_30 : Cond.selects RX1 yX1_sees yX1_sees ∈ GW := inG 30 (by decide +kernel) (by decide +kernel)
theorem q_314 : Cond.fieldLink RX5 9 "LampRound$Paths" "from" "[I" ∈ GW := inG 314 (by decide +kernel) (by decide +kernel)
theorem q_315 : Cond.fieldLink RX5 15 "LampRound$Paths" "to" "[I" ∈ GW := inG 315 (by decide +kernel) (by decide +kernel)
theorem q_316 : Cond.fieldLink RX5 18 "LampRound$Paths" "length" "[I" ∈ GW := inG 316 (by decide +kernel) (by decide +kernel)
theorem q_317 : Cond.fieldLink RX5 21 "LampRound$Paths" "until" "[I" ∈ GW := inG 317 (by decide +kernel) (by decide +kernel)
theorem q_318 : Cond.fieldLink RX5 36 "LampRound$Paths" "count" "I" ∈ GW := inG 318 (by decide +kernel) (by decide +kernel)
theorem q_320 : Cond.fieldLink RX5 24 "LampRound$Paths" "measured" "[I" ∈ GW := inG 320 (by decide +kernel) (by decide +kernel)
theorem q_321 : Cond.fieldLink RX5 27 "LampRound$Paths" "measuredIn" "[I" ∈ GW := inG 321 (by decide +kernel) (by decide +kernel)
theorem q_384 : Cond.fieldLink RX2 9 "LampRound$Law" "code" "[I" ∈ GW := inG 384 (by decide +kernel) (by decide +kernel)
theorem q_385 : Cond.fieldLink RX2 34 "LampRound$Law" "size" "I" ∈ GW := inG 385 (by decide +kernel) (by decide +kernel)
theorem q_386 : Cond.fieldLink RX2 15 "LampRound$Law" "marks" "[I" ∈ GW := inG 386 (by decide +kernel) (by decide +kernel)
theorem q_387 : Cond.fieldLink RX2 30 "LampRound$Law" "lines" "I" ∈ GW := inG 387 (by decide +kernel) (by decide +kernel)
theorem q_389 : Cond.fieldLink RX2 18 "LampRound$Law" "stack" "[I" ∈ GW := inG 389 (by decide +kernel) (by decide +kernel)
theorem q_39 : Cond.selects RX1 yX1_leastUnenvying yX1_leastUnenvying ∈ GW := inG 39 (by decide +kernel) (by decide +kernel)
theorem q_390 : Cond.fieldLink RX2 21 "LampRound$Law" "held" "[I" ∈ GW := inG 390 (by decide +kernel) (by decide +kernel)
theorem q_391 : Cond.fieldLink RX2 79 "LampRound$Law" "holding" "I" ∈ GW := inG 391 (by decide +kernel) (by decide +kernel)
theorem q_393 : Cond.fieldLink RX2 85 "LampRound$Law" "open" "I" ∈ GW := inG 393 (by decide +kernel) (by decide +kernel)
theorem q_40 : Cond.selects RX1 yX1_countPairs yX1_countPairs ∈ GW := inG 40 (by decide +kernel) (by decide +kernel)
theorem q_41 : Cond.selects RX1 yX1_mostPairs yX1_mostPairs ∈ GW := inG 41 (by decide +kernel) (by decide +kernel)
theorem q_419 : Cond.fieldLink RX7 9 "LampRound$Round" "stops" "[I" ∈ GW := inG 419 (by decide +kernel) (by decide +kernel)
theorem q_42 : Cond.selects RX1 yX1_pairsIn yX1_pairsIn ∈ GW := inG 42 (by decide +kernel) (by decide +kernel)
theorem q_421 : Cond.fieldLink RX7 27 "LampRound$Round" "size" "I" ∈ GW := inG 421 (by decide +kernel) (by decide +kernel)
theorem q_43 : Cond.selects RX1 yX1_firstPartner yX1_firstPartner ∈ GW := inG 43 (by decide +kernel) (by decide +kernel)
theorem q_6 : Cond.selects RX2 yX2_emit yX2_emit ∈ GW := inG 6 (by decide +kernel) (by decide +kernel)
theorem q_805 : Cond.static yJ9_max_7cf53 ∈ GW := inG 805 (by decide +kernel) (by decide +kernel)
theorem q_806 : Cond.code yJ9_max_7cf53 cJ9_max_7cf53 2 (some .int) ∈ GW := inG 806 (by decide +kernel) (by decide +kernel)
theorem q_873 : Cond.methodLink RX2 69 yX2_emit ∈ GW := inG 873 (by decide +kernel) (by decide +kernel)
theorem q_875 : Cond.instanceMethod yX2_emit ∈ GW := inG 875 (by decide +kernel) (by decide +kernel)
theorem q_876 : Cond.code yX2_emit cX2_emit 2 none ∈ GW := inG 876 (by decide +kernel) (by decide +kernel)
theorem q_965 : Cond.methodLink RX2 24 arraycopyName ∈ GW := inG 965 (by decide +kernel) (by decide +kernel)
theorem q_972 : Cond.methodLink RX5 30 arraycopyName ∈ GW := inG 972 (by decide +kernel) (by decide +kernel)
theorem q_986 : Cond.methodLink RX7 21 arraycopyName ∈ GW := inG 986 (by decide +kernel) (by decide +kernel)
theorem hdV_X1_all : yX1_all.cls = RX1 ∧ yX1_all.cls ≠ "java/lang/invoke/MethodHandle" ∧ yX1_all.cls ≠ "java/lang/invoke/VarHandle" ∧ (parseMethodDescriptor yX1_all.desc).map (fun d => d.parameters.length) = some 0 := by decide +kernel
theorem hdV_X1_countPairs : yX1_countPairs.cls = RX1 ∧ yX1_countPairs.cls ≠ "java/lang/invoke/MethodHandle" ∧ yX1_countPairs.cls ≠ "java/lang/invoke/VarHandle" ∧ (parseMethodDescriptor yX1_countPairs.desc).map (fun d => d.parameters.length) = some 0 := by decide +kernel
theorem hdV_X1_firstPartner : yX1_firstPartner.cls = RX1 ∧ yX1_firstPartner.cls ≠ "java/lang/invoke/MethodHandle" ∧ yX1_firstPartner.cls ≠ "java/lang/invoke/VarHandle" ∧ (parseMethodDescriptor yX1_firstPartner.desc).map (fun d => d.parameters.length) = some 2 := by decide +kernel
theorem hdV_X1_isBetween : yX1_isBetween.cls = RX1 ∧ yX1_isBetween.cls ≠ "java/lang/invoke/MethodHandle" ∧ yX1_isBetween.cls ≠ "java/lang/invoke/VarHandle" ∧ (parseMethodDescriptor yX1_isBetween.desc).map (fun d => d.parameters.length) = some 3 := by decide +kernel
theorem hdV_X1_leastUnenvying : yX1_leastUnenvying.cls = RX1 ∧ yX1_leastUnenvying.cls ≠ "java/lang/invoke/MethodHandle" ∧ yX1_leastUnenvying.cls ≠ "java/lang/invoke/VarHandle" ∧ (parseMethodDescriptor yX1_leastUnenvying.desc).map (fun d => d.parameters.length) = some 2 := by decide +kernel
theorem hdV_X1_mostPairs : yX1_mostPairs.cls = RX1 ∧ yX1_mostPairs.cls ≠ "java/lang/invoke/MethodHandle" ∧ yX1_mostPairs.cls ≠ "java/lang/invoke/VarHandle" ∧ (parseMethodDescriptor yX1_mostPairs.desc).map (fun d => d.parameters.length) = some 2 := by decide +kernel
theorem hdV_X1_pairsIn : yX1_pairsIn.cls = RX1 ∧ yX1_pairsIn.cls ≠ "java/lang/invoke/MethodHandle" ∧ yX1_pairsIn.cls ≠ "java/lang/invoke/VarHandle" ∧ (parseMethodDescriptor yX1_pairsIn.desc).map (fun d => d.parameters.length) = some 1 := by decide +kernel
theorem hdV_X1_sees : yX1_sees.cls = RX1 ∧ yX1_sees.cls ≠ "java/lang/invoke/MethodHandle" ∧ yX1_sees.cls ≠ "java/lang/invoke/VarHandle" ∧ (parseMethodDescriptor yX1_sees.desc).map (fun d => d.parameters.length) = some 2 := by decide +kernel
theorem hdV_X2_emit : yX2_emit.cls = RX2 ∧ yX2_emit.cls ≠ "java/lang/invoke/MethodHandle" ∧ yX2_emit.cls ≠ "java/lang/invoke/VarHandle" ∧ (parseMethodDescriptor yX2_emit.desc).map (fun d => d.parameters.length) = some 1 := by decide +kernel
theorem hdV_X2_join : yX2_join.cls = RX2 ∧ yX2_join.cls ≠ "java/lang/invoke/MethodHandle" ∧ yX2_join.cls ≠ "java/lang/invoke/VarHandle" ∧ (parseMethodDescriptor yX2_join.desc).map (fun d => d.parameters.length) = some 3 := by decide +kernel
theorem hdV_X2_reading : yX2_reading.cls = RX2 ∧ yX2_reading.cls ≠ "java/lang/invoke/MethodHandle" ∧ yX2_reading.cls ≠ "java/lang/invoke/VarHandle" ∧ (parseMethodDescriptor yX2_reading.desc).map (fun d => d.parameters.length) = some 2 := by decide +kernel
theorem hdV_X2_value : yX2_value.cls = RX2 ∧ yX2_value.cls ≠ "java/lang/invoke/MethodHandle" ∧ yX2_value.cls ≠ "java/lang/invoke/VarHandle" ∧ (parseMethodDescriptor yX2_value.desc).map (fun d => d.parameters.length) = some 3 := by decide +kernel
theorem hdV_X5_measureFrom : yX5_measureFrom.cls = RX5 ∧ yX5_measureFrom.cls ≠ "java/lang/invoke/MethodHandle" ∧ yX5_measureFrom.cls ≠ "java/lang/invoke/VarHandle" ∧ (parseMethodDescriptor yX5_measureFrom.desc).map (fun d => d.parameters.length) = some 2 := by decide +kernel
theorem hdV_X5_shorten : yX5_shorten.cls = RX5 ∧ yX5_shorten.cls ≠ "java/lang/invoke/MethodHandle" ∧ yX5_shorten.cls ≠ "java/lang/invoke/VarHandle" ∧ (parseMethodDescriptor yX5_shorten.desc).map (fun d => d.parameters.length) = some 3 := by decide +kernel
