theorem dX0_init_0 : decode cX0_init 0 = .ok (.aload_n 0, 1) := by decide +kernel
theorem dX0_init_1 : decode cX0_init 1 = .ok (.invokespecial 3, 3) := by decide +kernel
theorem dX0_init_4 : decode cX0_init 4 = .ok (.aload_n 0, 1) := by decide +kernel
theorem dX0_init_5 : decode cX0_init 5 = .ok (.bipush 8, 2) := by decide +kernel
theorem dX0_init_7 : decode cX0_init 7 = .ok (.newarray .int, 2) := by decide +kernel
theorem dX0_init_9 : decode cX0_init 9 = .ok (.putfield 9, 3) := by decide +kernel
theorem dX0_init_12 : decode cX0_init 12 = .ok (.aload_n 0, 1) := by decide +kernel
theorem dX0_init_13 : decode cX0_init 13 = .ok (.bipush 8, 2) := by decide +kernel
theorem dX0_init_15 : decode cX0_init 15 = .ok (.newarray .int, 2) := by decide +kernel
theorem dX0_init_17 : decode cX0_init 17 = .ok (.putfield 15, 3) := by decide +kernel
theorem dX0_init_20 : decode cX0_init 20 = .ok (.return_, 1) := by decide +kernel
theorem dX0_left_0 : decode cX0_left 0 = .ok (.iload_n 2, 1) := by decide +kernel
theorem dX0_left_1 : decode cX0_left 1 = .ok (.istore_n 3, 1) := by decide +kernel
theorem dX0_left_2 : decode cX0_left 2 = .ok (.iconst 0, 1) := by decide +kernel
theorem dX0_left_3 : decode cX0_left 3 = .ok (.istore 4, 2) := by decide +kernel
theorem dX0_left_5 : decode cX0_left 5 = .ok (.iload 4, 2) := by decide +kernel
theorem dX0_left_7 : decode cX0_left 7 = .ok (.aload_n 0, 1) := by decide +kernel
theorem dX0_left_8 : decode cX0_left 8 = .ok (.getfield 24, 3) := by decide +kernel
theorem dX0_left_11 : decode cX0_left 11 = .ok (.if_icmp .ge 37, 3) := by decide +kernel
theorem dX0_left_48 : decode cX0_left 48 = .ok (.iload_n 3, 1) := by decide +kernel
theorem dX0_left_49 : decode cX0_left 49 = .ok (.ireturn, 1) := by decide +kernel
theorem dX0_take_0 : decode cX0_take 0 = .ok (.aload_n 1, 1) := by decide +kernel
theorem dX0_take_1 : decode cX0_take 1 = .ok (.getfield 9, 3) := by decide +kernel
theorem dX0_take_4 : decode cX0_take 4 = .ok (.iconst 0, 1) := by decide +kernel
theorem dX0_take_5 : decode cX0_take 5 = .ok (.aload_n 0, 1) := by decide +kernel
theorem dX0_take_6 : decode cX0_take 6 = .ok (.getfield 9, 3) := by decide +kernel
theorem dX0_take_9 : decode cX0_take 9 = .ok (.iconst 0, 1) := by decide +kernel
theorem dX0_take_10 : decode cX0_take 10 = .ok (.bipush 8, 2) := by decide +kernel
theorem dX0_take_12 : decode cX0_take 12 = .ok (.invokestatic 18, 3) := by decide +kernel
theorem dX0_take_15 : decode cX0_take 15 = .ok (.aload_n 1, 1) := by decide +kernel
theorem dX0_take_16 : decode cX0_take 16 = .ok (.getfield 15, 3) := by decide +kernel
theorem dX0_take_19 : decode cX0_take 19 = .ok (.iconst 0, 1) := by decide +kernel
theorem dX0_take_20 : decode cX0_take 20 = .ok (.aload_n 0, 1) := by decide +kernel
theorem dX0_take_21 : decode cX0_take 21 = .ok (.getfield 15, 3) := by decide +kernel
theorem dX0_take_24 : decode cX0_take 24 = .ok (.iconst 0, 1) := by decide +kernel
theorem dX0_take_25 : decode cX0_take 25 = .ok (.bipush 8, 2) := by decide +kernel
theorem dX0_take_27 : decode cX0_take 27 = .ok (.invokestatic 18, 3) := by decide +kernel
theorem dX0_take_30 : decode cX0_take 30 = .ok (.aload_n 0, 1) := by decide +kernel
theorem dX0_take_31 : decode cX0_take 31 = .ok (.aload_n 1, 1) := by decide +kernel
theorem dX0_take_32 : decode cX0_take 32 = .ok (.getfield 24, 3) := by decide +kernel
theorem dX0_take_35 : decode cX0_take 35 = .ok (.putfield 24, 3) := by decide +kernel
theorem dX0_take_38 : decode cX0_take 38 = .ok (.return_, 1) := by decide +kernel
theorem dX1_all_0 : decode cX1_all 0 = .ok (.iconst 1, 1) := by decide +kernel
theorem dX1_all_1 : decode cX1_all 1 = .ok (.aload_n 0, 1) := by decide +kernel
theorem dX1_all_2 : decode cX1_all 2 = .ok (.getfield 39, 3) := by decide +kernel
theorem dX1_all_5 : decode cX1_all 5 = .ok (.ishl, 1) := by decide +kernel
theorem dX1_all_6 : decode cX1_all 6 = .ok (.iconst 1, 1) := by decide +kernel
theorem dX1_all_7 : decode cX1_all 7 = .ok (.isub, 1) := by decide +kernel
theorem dX1_all_8 : decode cX1_all 8 = .ok (.ireturn, 1) := by decide +kernel
theorem dX1_canMend_0 : decode cX1_canMend 0 = .ok (.aload_n 1, 1) := by decide +kernel
theorem dX1_canMend_1 : decode cX1_canMend 1 = .ok (.iconst 0, 1) := by decide +kernel
theorem dX1_canMend_2 : decode cX1_canMend 2 = .ok (.aload_n 0, 1) := by decide +kernel
theorem dX1_canMend_3 : decode cX1_canMend 3 = .ok (.getfield 27, 3) := by decide +kernel
theorem dX1_canMend_6 : decode cX1_canMend 6 = .ok (.iconst 0, 1) := by decide +kernel
theorem dX1_canMend_7 : decode cX1_canMend 7 = .ok (.bipush 10, 2) := by decide +kernel
theorem dX1_canMend_9 : decode cX1_canMend 9 = .ok (.invokestatic 33, 3) := by decide +kernel
theorem dX1_canMend_12 : decode cX1_canMend 12 = .ok (.iconst 1, 1) := by decide +kernel
theorem dX1_canMend_13 : decode cX1_canMend 13 = .ok (.istore_n 3, 1) := by decide +kernel
theorem dX1_canMend_14 : decode cX1_canMend 14 = .ok (.iconst 0, 1) := by decide +kernel
theorem dX1_canMend_15 : decode cX1_canMend 15 = .ok (.istore 4, 2) := by decide +kernel
theorem dX1_canMend_17 : decode cX1_canMend 17 = .ok (.iload 4, 2) := by decide +kernel
theorem dX1_canMend_19 : decode cX1_canMend 19 = .ok (.sipush 10000, 3) := by decide +kernel
theorem dX1_canMend_22 : decode cX1_canMend 22 = .ok (.if_icmp .ge 85, 3) := by decide +kernel
theorem dX1_canMend_25 : decode cX1_canMend 25 = .ok (.iload_n 3, 1) := by decide +kernel
theorem dX1_canMend_26 : decode cX1_canMend 26 = .ok (.ifCond .eq 81, 3) := by decide +kernel
theorem dX1_canMend_29 : decode cX1_canMend 29 = .ok (.iconst 0, 1) := by decide +kernel
theorem dX1_canMend_30 : decode cX1_canMend 30 = .ok (.istore_n 3, 1) := by decide +kernel
theorem dX1_canMend_31 : decode cX1_canMend 31 = .ok (.iconst 0, 1) := by decide +kernel
theorem dX1_canMend_32 : decode cX1_canMend 32 = .ok (.istore 5, 2) := by decide +kernel
theorem dX1_canMend_34 : decode cX1_canMend 34 = .ok (.iload 5, 2) := by decide +kernel
theorem dX1_canMend_36 : decode cX1_canMend 36 = .ok (.aload_n 0, 1) := by decide +kernel
theorem dX1_canMend_37 : decode cX1_canMend 37 = .ok (.getfield 39, 3) := by decide +kernel
theorem dX1_canMend_40 : decode cX1_canMend 40 = .ok (.if_icmp .ge 61, 3) := by decide +kernel
theorem dX1_canMend_101 : decode cX1_canMend 101 = .ok (.iinc 4 1, 3) := by decide +kernel
theorem dX1_canMend_104 : decode cX1_canMend 104 = .ok (.goto (-87), 3) := by decide +kernel
theorem dX1_canMend_107 : decode cX1_canMend 107 = .ok (.iconst 1, 1) := by decide +kernel
theorem dX1_canMend_108 : decode cX1_canMend 108 = .ok (.ireturn, 1) := by decide +kernel
theorem dX1_countPairs_0 : decode cX1_countPairs 0 = .ok (.aload_n 0, 1) := by decide +kernel
theorem dX1_countPairs_1 : decode cX1_countPairs 1 = .ok (.getfield 66, 3) := by decide +kernel
theorem dX1_countPairs_4 : decode cX1_countPairs 4 = .ok (.ifnonnull 12, 3) := by decide +kernel
theorem dX1_countPairs_7 : decode cX1_countPairs 7 = .ok (.aload_n 0, 1) := by decide +kernel
theorem dX1_countPairs_8 : decode cX1_countPairs 8 = .ok (.sipush 1024, 3) := by decide +kernel
theorem dX1_countPairs_11 : decode cX1_countPairs 11 = .ok (.newarray .int, 2) := by decide +kernel
theorem dX1_countPairs_13 : decode cX1_countPairs 13 = .ok (.putfield 66, 3) := by decide +kernel
theorem dX1_countPairs_16 : decode cX1_countPairs 16 = .ok (.iconst 0, 1) := by decide +kernel
theorem dX1_countPairs_17 : decode cX1_countPairs 17 = .ok (.istore_n 1, 1) := by decide +kernel
theorem dX1_countPairs_18 : decode cX1_countPairs 18 = .ok (.iload_n 1, 1) := by decide +kernel
theorem dX1_countPairs_19 : decode cX1_countPairs 19 = .ok (.aload_n 0, 1) := by decide +kernel
theorem dX1_countPairs_20 : decode cX1_countPairs 20 = .ok (.getfield 39, 3) := by decide +kernel
theorem dX1_countPairs_23 : decode cX1_countPairs 23 = .ok (.if_icmp .ge 40, 3) := by decide +kernel
theorem dX1_countPairs_63 : decode cX1_countPairs 63 = .ok (.return_, 1) := by decide +kernel
theorem dX1_has_0 : decode cX1_has 0 = .ok (.iload_n 1, 1) := by decide +kernel
theorem dX1_has_1 : decode cX1_has 1 = .ok (.ifCond .lt 21, 3) := by decide +kernel
theorem dX1_has_4 : decode cX1_has 4 = .ok (.iload_n 1, 1) := by decide +kernel
theorem dX1_has_5 : decode cX1_has 5 = .ok (.aload_n 0, 1) := by decide +kernel
theorem dX1_has_6 : decode cX1_has 6 = .ok (.getfield 39, 3) := by decide +kernel
theorem dX1_has_9 : decode cX1_has 9 = .ok (.if_icmp .ge 13, 3) := by decide +kernel
theorem dX1_has_22 : decode cX1_has 22 = .ok (.iconst 0, 1) := by decide +kernel
theorem dX1_has_23 : decode cX1_has 23 = .ok (.ireturn, 1) := by decide +kernel
theorem dX1_highestBid_0 : decode cX1_highestBid 0 = .ok (.iconst (-1), 1) := by decide +kernel
theorem dX1_highestBid_1 : decode cX1_highestBid 1 = .ok (.istore_n 2, 1) := by decide +kernel
theorem dX1_highestBid_2 : decode cX1_highestBid 2 = .ok (.iconst 0, 1) := by decide +kernel
theorem dX1_highestBid_3 : decode cX1_highestBid 3 = .ok (.istore_n 3, 1) := by decide +kernel
theorem dX1_highestBid_4 : decode cX1_highestBid 4 = .ok (.iload_n 3, 1) := by decide +kernel
theorem dX1_highestBid_5 : decode cX1_highestBid 5 = .ok (.aload_n 0, 1) := by decide +kernel
theorem dX1_highestBid_6 : decode cX1_highestBid 6 = .ok (.getfield 39, 3) := by decide +kernel
theorem dX1_highestBid_9 : decode cX1_highestBid 9 = .ok (.if_icmp .ge 52, 3) := by decide +kernel
theorem dX1_highestBid_61 : decode cX1_highestBid 61 = .ok (.iload_n 2, 1) := by decide +kernel
theorem dX1_highestBid_62 : decode cX1_highestBid 62 = .ok (.ireturn, 1) := by decide +kernel
theorem dX1_init_0 : decode cX1_init 0 = .ok (.aload_n 0, 1) := by decide +kernel
theorem dX1_init_1 : decode cX1_init 1 = .ok (.invokespecial 3, 3) := by decide +kernel
theorem dX1_init_4 : decode cX1_init 4 = .ok (.aload_n 0, 1) := by decide +kernel
theorem dX1_init_5 : decode cX1_init 5 = .ok (.bipush 10, 2) := by decide +kernel
theorem dX1_init_7 : decode cX1_init 7 = .ok (.newarray .int, 2) := by decide +kernel
theorem dX1_init_9 : decode cX1_init 9 = .ok (.putfield 9, 3) := by decide +kernel
theorem dX1_init_12 : decode cX1_init 12 = .ok (.aload_n 0, 1) := by decide +kernel
theorem dX1_init_13 : decode cX1_init 13 = .ok (.bipush 10, 2) := by decide +kernel
theorem dX1_init_15 : decode cX1_init 15 = .ok (.newarray .int, 2) := by decide +kernel
theorem dX1_init_17 : decode cX1_init 17 = .ok (.putfield 15, 3) := by decide +kernel
theorem dX1_init_20 : decode cX1_init 20 = .ok (.aload_n 0, 1) := by decide +kernel
theorem dX1_init_21 : decode cX1_init 21 = .ok (.bipush 10, 2) := by decide +kernel
theorem dX1_init_23 : decode cX1_init 23 = .ok (.newarray .int, 2) := by decide +kernel
theorem dX1_init_25 : decode cX1_init 25 = .ok (.putfield 18, 3) := by decide +kernel
theorem dX1_init_28 : decode cX1_init 28 = .ok (.aload_n 0, 1) := by decide +kernel
theorem dX1_init_29 : decode cX1_init 29 = .ok (.bipush 10, 2) := by decide +kernel
theorem dX1_init_31 : decode cX1_init 31 = .ok (.newarray .int, 2) := by decide +kernel
theorem dX1_init_33 : decode cX1_init 33 = .ok (.putfield 21, 3) := by decide +kernel
theorem dX1_init_36 : decode cX1_init 36 = .ok (.aload_n 0, 1) := by decide +kernel
theorem dX1_init_37 : decode cX1_init 37 = .ok (.bipush 10, 2) := by decide +kernel
theorem dX1_init_39 : decode cX1_init 39 = .ok (.newarray .int, 2) := by decide +kernel
theorem dX1_init_41 : decode cX1_init 41 = .ok (.putfield 24, 3) := by decide +kernel
theorem dX1_init_44 : decode cX1_init 44 = .ok (.aload_n 0, 1) := by decide +kernel
theorem dX1_init_45 : decode cX1_init 45 = .ok (.bipush 10, 2) := by decide +kernel
theorem dX1_init_47 : decode cX1_init 47 = .ok (.newarray .int, 2) := by decide +kernel
theorem dX1_init_49 : decode cX1_init 49 = .ok (.putfield 27, 3) := by decide +kernel
theorem dX1_init_52 : decode cX1_init 52 = .ok (.aload_n 0, 1) := by decide +kernel
theorem dX1_init_53 : decode cX1_init 53 = .ok (.bipush 10, 2) := by decide +kernel
theorem dX1_init_55 : decode cX1_init 55 = .ok (.newarray .int, 2) := by decide +kernel
theorem dX1_init_57 : decode cX1_init 57 = .ok (.putfield 30, 3) := by decide +kernel
theorem dX1_init_60 : decode cX1_init 60 = .ok (.return_, 1) := by decide +kernel
theorem dX1_isFree_0 : decode cX1_isFree 0 = .ok (.iload_n 1, 1) := by decide +kernel
theorem dX1_isFree_1 : decode cX1_isFree 1 = .ok (.ifCond .lt 9, 3) := by decide +kernel
theorem dX1_isFree_4 : decode cX1_isFree 4 = .ok (.iload_n 1, 1) := by decide +kernel
theorem dX1_isFree_5 : decode cX1_isFree 5 = .ok (.bipush 63, 2) := by decide +kernel
theorem dX1_isFree_7 : decode cX1_isFree 7 = .ok (.if_icmp .le 5, 3) := by decide +kernel
theorem dX1_isFree_10 : decode cX1_isFree 10 = .ok (.iconst 0, 1) := by decide +kernel
theorem dX1_isFree_11 : decode cX1_isFree 11 = .ok (.ireturn, 1) := by decide +kernel
theorem dX1_isFree_12 : decode cX1_isFree 12 = .ok (.iconst 0, 1) := by decide +kernel
theorem dX1_isFree_13 : decode cX1_isFree 13 = .ok (.istore_n 2, 1) := by decide +kernel
theorem dX1_isFree_14 : decode cX1_isFree 14 = .ok (.iload_n 2, 1) := by decide +kernel
theorem dX1_isFree_15 : decode cX1_isFree 15 = .ok (.aload_n 0, 1) := by decide +kernel
theorem dX1_isFree_16 : decode cX1_isFree 16 = .ok (.getfield 39, 3) := by decide +kernel
theorem dX1_isFree_19 : decode cX1_isFree 19 = .ok (.if_icmp .ge 21, 3) := by decide +kernel
theorem dX1_isFree_40 : decode cX1_isFree 40 = .ok (.iconst 1, 1) := by decide +kernel
theorem dX1_isFree_41 : decode cX1_isFree 41 = .ok (.ireturn, 1) := by decide +kernel
theorem dX1_pairUp_0 : decode cX1_pairUp 0 = .ok (.aload_n 0, 1) := by decide +kernel
theorem dX1_pairUp_1 : decode cX1_pairUp 1 = .ok (.invokevirtual 52, 3) := by decide +kernel
theorem dX1_pairUp_4 : decode cX1_pairUp 4 = .ok (.aload_n 0, 1) := by decide +kernel
theorem dX1_pairUp_5 : decode cX1_pairUp 5 = .ok (.invokevirtual 55, 3) := by decide +kernel
theorem dX1_pairUp_8 : decode cX1_pairUp 8 = .ok (.istore_n 1, 1) := by decide +kernel
theorem dX1_pairUp_9 : decode cX1_pairUp 9 = .ok (.iconst 0, 1) := by decide +kernel
theorem dX1_pairUp_10 : decode cX1_pairUp 10 = .ok (.istore_n 2, 1) := by decide +kernel
theorem dX1_pairUp_11 : decode cX1_pairUp 11 = .ok (.iload_n 2, 1) := by decide +kernel
theorem dX1_pairUp_12 : decode cX1_pairUp 12 = .ok (.aload_n 0, 1) := by decide +kernel
theorem dX1_pairUp_13 : decode cX1_pairUp 13 = .ok (.getfield 39, 3) := by decide +kernel
theorem dX1_pairUp_16 : decode cX1_pairUp 16 = .ok (.if_icmp .ge 60, 3) := by decide +kernel
theorem dX1_pairUp_76 : decode cX1_pairUp 76 = .ok (.aload_n 0, 1) := by decide +kernel
theorem dX1_pairUp_77 : decode cX1_pairUp 77 = .ok (.aload_n 0, 1) := by decide +kernel
theorem dX1_pairUp_78 : decode cX1_pairUp 78 = .ok (.invokevirtual 55, 3) := by decide +kernel
theorem dX1_pairUp_81 : decode cX1_pairUp 81 = .ok (.invokevirtual 62, 3) := by decide +kernel
theorem dX1_pairUp_84 : decode cX1_pairUp 84 = .ok (.ireturn, 1) := by decide +kernel
theorem dX1_pairsIn_0 : decode cX1_pairsIn 0 = .ok (.aload_n 0, 1) := by decide +kernel
theorem dX1_pairsIn_1 : decode cX1_pairsIn 1 = .ok (.getfield 66, 3) := by decide +kernel
theorem dX1_pairsIn_4 : decode cX1_pairsIn 4 = .ok (.ifnull 25, 3) := by decide +kernel
theorem dX1_pairsIn_7 : decode cX1_pairsIn 7 = .ok (.iload_n 1, 1) := by decide +kernel
theorem dX1_pairsIn_8 : decode cX1_pairsIn 8 = .ok (.ifCond .le 21, 3) := by decide +kernel
theorem dX1_pairsIn_29 : decode cX1_pairsIn 29 = .ok (.iconst 0, 1) := by decide +kernel
theorem dX1_pairsIn_30 : decode cX1_pairsIn 30 = .ok (.ireturn, 1) := by decide +kernel
theorem dX1_take_0 : decode cX1_take 0 = .ok (.aload_n 1, 1) := by decide +kernel
theorem dX1_take_1 : decode cX1_take 1 = .ok (.getfield 9, 3) := by decide +kernel
theorem dX1_take_4 : decode cX1_take 4 = .ok (.iconst 0, 1) := by decide +kernel
theorem dX1_take_5 : decode cX1_take 5 = .ok (.aload_n 0, 1) := by decide +kernel
theorem dX1_take_6 : decode cX1_take 6 = .ok (.getfield 9, 3) := by decide +kernel
theorem dX1_take_9 : decode cX1_take 9 = .ok (.iconst 0, 1) := by decide +kernel
theorem dX1_take_10 : decode cX1_take 10 = .ok (.bipush 10, 2) := by decide +kernel
theorem dX1_take_12 : decode cX1_take 12 = .ok (.invokestatic 33, 3) := by decide +kernel
theorem dX1_take_15 : decode cX1_take 15 = .ok (.aload_n 1, 1) := by decide +kernel
theorem dX1_take_16 : decode cX1_take 16 = .ok (.getfield 15, 3) := by decide +kernel
theorem dX1_take_19 : decode cX1_take 19 = .ok (.iconst 0, 1) := by decide +kernel
theorem dX1_take_20 : decode cX1_take 20 = .ok (.aload_n 0, 1) := by decide +kernel
theorem dX1_take_21 : decode cX1_take 21 = .ok (.getfield 15, 3) := by decide +kernel
theorem dX1_take_24 : decode cX1_take 24 = .ok (.iconst 0, 1) := by decide +kernel
theorem dX1_take_25 : decode cX1_take 25 = .ok (.bipush 10, 2) := by decide +kernel
theorem dX1_take_27 : decode cX1_take 27 = .ok (.invokestatic 33, 3) := by decide +kernel
theorem dX1_take_30 : decode cX1_take 30 = .ok (.aload_n 1, 1) := by decide +kernel
theorem dX1_take_31 : decode cX1_take 31 = .ok (.getfield 18, 3) := by decide +kernel
theorem dX1_take_34 : decode cX1_take 34 = .ok (.iconst 0, 1) := by decide +kernel
theorem dX1_take_35 : decode cX1_take 35 = .ok (.aload_n 0, 1) := by decide +kernel
theorem dX1_take_36 : decode cX1_take 36 = .ok (.getfield 18, 3) := by decide +kernel
theorem dX1_take_39 : decode cX1_take 39 = .ok (.iconst 0, 1) := by decide +kernel
theorem dX1_take_40 : decode cX1_take 40 = .ok (.bipush 10, 2) := by decide +kernel
theorem dX1_take_42 : decode cX1_take 42 = .ok (.invokestatic 33, 3) := by decide +kernel
theorem dX1_take_45 : decode cX1_take 45 = .ok (.aload_n 1, 1) := by decide +kernel
theorem dX1_take_46 : decode cX1_take 46 = .ok (.getfield 21, 3) := by decide +kernel
theorem dX1_take_49 : decode cX1_take 49 = .ok (.iconst 0, 1) := by decide +kernel
theorem dX1_take_50 : decode cX1_take 50 = .ok (.aload_n 0, 1) := by decide +kernel
theorem dX1_take_51 : decode cX1_take 51 = .ok (.getfield 21, 3) := by decide +kernel
theorem dX1_take_54 : decode cX1_take 54 = .ok (.iconst 0, 1) := by decide +kernel
theorem dX1_take_55 : decode cX1_take 55 = .ok (.bipush 10, 2) := by decide +kernel
theorem dX1_take_57 : decode cX1_take 57 = .ok (.invokestatic 33, 3) := by decide +kernel
theorem dX1_take_60 : decode cX1_take 60 = .ok (.aload_n 1, 1) := by decide +kernel
theorem dX1_take_61 : decode cX1_take 61 = .ok (.getfield 24, 3) := by decide +kernel
theorem dX1_take_64 : decode cX1_take 64 = .ok (.iconst 0, 1) := by decide +kernel
theorem dX1_take_65 : decode cX1_take 65 = .ok (.aload_n 0, 1) := by decide +kernel
theorem dX1_take_66 : decode cX1_take 66 = .ok (.getfield 24, 3) := by decide +kernel
theorem dX1_take_69 : decode cX1_take 69 = .ok (.iconst 0, 1) := by decide +kernel
theorem dX1_take_70 : decode cX1_take 70 = .ok (.bipush 10, 2) := by decide +kernel
theorem dX1_take_72 : decode cX1_take 72 = .ok (.invokestatic 33, 3) := by decide +kernel
theorem dX1_take_75 : decode cX1_take 75 = .ok (.aload_n 0, 1) := by decide +kernel
theorem dX1_take_76 : decode cX1_take 76 = .ok (.aload_n 1, 1) := by decide +kernel
theorem dX1_take_77 : decode cX1_take 77 = .ok (.getfield 39, 3) := by decide +kernel
theorem dX1_take_80 : decode cX1_take 80 = .ok (.putfield 39, 3) := by decide +kernel
theorem dX1_take_83 : decode cX1_take 83 = .ok (.return_, 1) := by decide +kernel
theorem dX10_init_0 : decode cX10_init 0 = .ok (.aload_n 0, 1) := by decide +kernel
theorem dX10_init_1 : decode cX10_init 1 = .ok (.invokespecial 3, 3) := by decide +kernel
theorem dX10_init_4 : decode cX10_init 4 = .ok (.aload_n 0, 1) := by decide +kernel
theorem dX10_init_5 : decode cX10_init 5 = .ok (.new 9, 3) := by decide +kernel
theorem dX10_init_8 : decode cX10_init 8 = .ok (.dup, 1) := by decide +kernel
theorem dX10_init_9 : decode cX10_init 9 = .ok (.invokespecial 11, 3) := by decide +kernel
theorem dX10_init_12 : decode cX10_init 12 = .ok (.putfield 12, 3) := by decide +kernel
theorem dX10_init_15 : decode cX10_init 15 = .ok (.aload_n 0, 1) := by decide +kernel
theorem dX10_init_16 : decode cX10_init 16 = .ok (.new 18, 3) := by decide +kernel
theorem dX10_init_19 : decode cX10_init 19 = .ok (.dup, 1) := by decide +kernel
theorem dX10_init_20 : decode cX10_init 20 = .ok (.invokespecial 20, 3) := by decide +kernel
theorem dX10_init_23 : decode cX10_init 23 = .ok (.putfield 21, 3) := by decide +kernel
theorem dX10_init_26 : decode cX10_init 26 = .ok (.aload_n 0, 1) := by decide +kernel
theorem dX10_init_27 : decode cX10_init 27 = .ok (.new 25, 3) := by decide +kernel
theorem dX10_init_30 : decode cX10_init 30 = .ok (.dup, 1) := by decide +kernel
theorem dX10_init_31 : decode cX10_init 31 = .ok (.invokespecial 27, 3) := by decide +kernel
theorem dX10_init_34 : decode cX10_init 34 = .ok (.putfield 28, 3) := by decide +kernel
theorem dX10_init_37 : decode cX10_init 37 = .ok (.aload_n 0, 1) := by decide +kernel
theorem dX10_init_38 : decode cX10_init 38 = .ok (.new 32, 3) := by decide +kernel
theorem dX10_init_41 : decode cX10_init 41 = .ok (.dup, 1) := by decide +kernel
theorem dX10_init_42 : decode cX10_init 42 = .ok (.invokespecial 34, 3) := by decide +kernel
theorem dX10_init_45 : decode cX10_init 45 = .ok (.putfield 35, 3) := by decide +kernel
theorem dX10_init_48 : decode cX10_init 48 = .ok (.aload_n 0, 1) := by decide +kernel
theorem dX10_init_49 : decode cX10_init 49 = .ok (.new 39, 3) := by decide +kernel
theorem dX10_init_52 : decode cX10_init 52 = .ok (.dup, 1) := by decide +kernel
theorem dX10_init_53 : decode cX10_init 53 = .ok (.invokespecial 41, 3) := by decide +kernel
theorem dX10_init_56 : decode cX10_init 56 = .ok (.putfield 42, 3) := by decide +kernel
theorem dX10_init_59 : decode cX10_init 59 = .ok (.aload_n 0, 1) := by decide +kernel
theorem dX10_init_60 : decode cX10_init 60 = .ok (.new 39, 3) := by decide +kernel
theorem dX10_init_63 : decode cX10_init 63 = .ok (.dup, 1) := by decide +kernel
theorem dX10_init_64 : decode cX10_init 64 = .ok (.invokespecial 41, 3) := by decide +kernel
theorem dX10_init_67 : decode cX10_init 67 = .ok (.putfield 46, 3) := by decide +kernel
theorem dX10_init_70 : decode cX10_init 70 = .ok (.aload_n 0, 1) := by decide +kernel
theorem dX10_init_71 : decode cX10_init 71 = .ok (.new 49, 3) := by decide +kernel
theorem dX10_init_74 : decode cX10_init 74 = .ok (.dup, 1) := by decide +kernel
theorem dX10_init_75 : decode cX10_init 75 = .ok (.invokespecial 51, 3) := by decide +kernel
theorem dX10_init_78 : decode cX10_init 78 = .ok (.putfield 52, 3) := by decide +kernel
theorem dX10_init_81 : decode cX10_init 81 = .ok (.aload_n 0, 1) := by decide +kernel
theorem dX10_init_82 : decode cX10_init 82 = .ok (.new 56, 3) := by decide +kernel
theorem dX10_init_85 : decode cX10_init 85 = .ok (.dup, 1) := by decide +kernel
theorem dX10_init_86 : decode cX10_init 86 = .ok (.invokespecial 58, 3) := by decide +kernel
theorem dX10_init_89 : decode cX10_init 89 = .ok (.putfield 59, 3) := by decide +kernel
theorem dX10_init_92 : decode cX10_init 92 = .ok (.aload_n 0, 1) := by decide +kernel
theorem dX10_init_93 : decode cX10_init 93 = .ok (.sipush 900, 3) := by decide +kernel
theorem dX10_init_96 : decode cX10_init 96 = .ok (.newarray .int, 2) := by decide +kernel
theorem dX10_init_98 : decode cX10_init 98 = .ok (.putfield 63, 3) := by decide +kernel
theorem dX10_init_101 : decode cX10_init 101 = .ok (.aload_n 0, 1) := by decide +kernel
theorem dX10_init_102 : decode cX10_init 102 = .ok (.bipush 20, 2) := by decide +kernel
theorem dX10_init_104 : decode cX10_init 104 = .ok (.putfield 67, 3) := by decide +kernel
theorem dX10_init_107 : decode cX10_init 107 = .ok (.aload_n 0, 1) := by decide +kernel
theorem dX10_init_108 : decode cX10_init 108 = .ok (.bipush 30, 2) := by decide +kernel
theorem dX10_init_110 : decode cX10_init 110 = .ok (.putfield 71, 3) := by decide +kernel
theorem dX10_init_113 : decode cX10_init 113 = .ok (.aload_n 0, 1) := by decide +kernel
theorem dX10_init_114 : decode cX10_init 114 = .ok (.bipush 10, 2) := by decide +kernel
theorem dX10_init_116 : decode cX10_init 116 = .ok (.newarray .int, 2) := by decide +kernel
theorem dX10_init_118 : decode cX10_init 118 = .ok (.putfield 74, 3) := by decide +kernel
theorem dX10_init_121 : decode cX10_init 121 = .ok (.aload_n 0, 1) := by decide +kernel
theorem dX10_init_122 : decode cX10_init 122 = .ok (.bipush 10, 2) := by decide +kernel
theorem dX10_init_124 : decode cX10_init 124 = .ok (.newarray .int, 2) := by decide +kernel
theorem dX10_init_126 : decode cX10_init 126 = .ok (.putfield 77, 3) := by decide +kernel
theorem dX10_init_129 : decode cX10_init 129 = .ok (.aload_n 0, 1) := by decide +kernel
theorem dX10_init_130 : decode cX10_init 130 = .ok (.bipush 10, 2) := by decide +kernel
theorem dX10_init_132 : decode cX10_init 132 = .ok (.newarray .int, 2) := by decide +kernel
theorem dX10_init_134 : decode cX10_init 134 = .ok (.putfield 80, 3) := by decide +kernel
theorem dX10_init_137 : decode cX10_init 137 = .ok (.aload_n 0, 1) := by decide +kernel
theorem dX10_init_138 : decode cX10_init 138 = .ok (.bipush 10, 2) := by decide +kernel
theorem dX10_init_140 : decode cX10_init 140 = .ok (.newarray .int, 2) := by decide +kernel
theorem dX10_init_142 : decode cX10_init 142 = .ok (.putfield 83, 3) := by decide +kernel
theorem dX10_init_145 : decode cX10_init 145 = .ok (.return_, 1) := by decide +kernel
theorem dX10_take_0 : decode cX10_take 0 = .ok (.aload_n 0, 1) := by decide +kernel
theorem dX10_take_1 : decode cX10_take 1 = .ok (.getfield 12, 3) := by decide +kernel
theorem dX10_take_4 : decode cX10_take 4 = .ok (.aload_n 1, 1) := by decide +kernel
theorem dX10_take_5 : decode cX10_take 5 = .ok (.getfield 12, 3) := by decide +kernel
theorem dX10_take_8 : decode cX10_take 8 = .ok (.invokevirtual 86, 3) := by decide +kernel
theorem dX10_take_11 : decode cX10_take 11 = .ok (.aload_n 0, 1) := by decide +kernel
theorem dX10_take_12 : decode cX10_take 12 = .ok (.getfield 21, 3) := by decide +kernel
theorem dX10_take_15 : decode cX10_take 15 = .ok (.aload_n 1, 1) := by decide +kernel
theorem dX10_take_16 : decode cX10_take 16 = .ok (.getfield 21, 3) := by decide +kernel
theorem dX10_take_19 : decode cX10_take 19 = .ok (.invokevirtual 90, 3) := by decide +kernel
theorem dX10_take_22 : decode cX10_take 22 = .ok (.aload_n 0, 1) := by decide +kernel
theorem dX10_take_23 : decode cX10_take 23 = .ok (.getfield 28, 3) := by decide +kernel
theorem dX10_take_26 : decode cX10_take 26 = .ok (.aload_n 1, 1) := by decide +kernel
theorem dX10_take_27 : decode cX10_take 27 = .ok (.getfield 28, 3) := by decide +kernel
theorem dX10_take_30 : decode cX10_take 30 = .ok (.invokevirtual 93, 3) := by decide +kernel
theorem dX10_take_33 : decode cX10_take 33 = .ok (.aload_n 0, 1) := by decide +kernel
theorem dX10_take_34 : decode cX10_take 34 = .ok (.getfield 35, 3) := by decide +kernel
theorem dX10_take_37 : decode cX10_take 37 = .ok (.aload_n 1, 1) := by decide +kernel
theorem dX10_take_38 : decode cX10_take 38 = .ok (.getfield 35, 3) := by decide +kernel
theorem dX10_take_41 : decode cX10_take 41 = .ok (.invokevirtual 96, 3) := by decide +kernel
theorem dX10_take_44 : decode cX10_take 44 = .ok (.aload_n 0, 1) := by decide +kernel
theorem dX10_take_45 : decode cX10_take 45 = .ok (.getfield 42, 3) := by decide +kernel
theorem dX10_take_48 : decode cX10_take 48 = .ok (.aload_n 1, 1) := by decide +kernel
theorem dX10_take_49 : decode cX10_take 49 = .ok (.getfield 42, 3) := by decide +kernel
theorem dX10_take_52 : decode cX10_take 52 = .ok (.invokevirtual 99, 3) := by decide +kernel
theorem dX10_take_55 : decode cX10_take 55 = .ok (.aload_n 0, 1) := by decide +kernel
theorem dX10_take_56 : decode cX10_take 56 = .ok (.getfield 46, 3) := by decide +kernel
theorem dX10_take_59 : decode cX10_take 59 = .ok (.aload_n 1, 1) := by decide +kernel
theorem dX10_take_60 : decode cX10_take 60 = .ok (.getfield 46, 3) := by decide +kernel
theorem dX10_take_63 : decode cX10_take 63 = .ok (.invokevirtual 99, 3) := by decide +kernel
theorem dX10_take_66 : decode cX10_take 66 = .ok (.aload_n 0, 1) := by decide +kernel
theorem dX10_take_67 : decode cX10_take 67 = .ok (.getfield 52, 3) := by decide +kernel
theorem dX10_take_70 : decode cX10_take 70 = .ok (.aload_n 1, 1) := by decide +kernel
theorem dX10_take_71 : decode cX10_take 71 = .ok (.getfield 52, 3) := by decide +kernel
theorem dX10_take_74 : decode cX10_take 74 = .ok (.invokevirtual 102, 3) := by decide +kernel
theorem dX10_take_77 : decode cX10_take 77 = .ok (.aload_n 0, 1) := by decide +kernel
theorem dX10_take_78 : decode cX10_take 78 = .ok (.getfield 59, 3) := by decide +kernel
theorem dX10_take_81 : decode cX10_take 81 = .ok (.aload_n 1, 1) := by decide +kernel
theorem dX10_take_82 : decode cX10_take 82 = .ok (.getfield 59, 3) := by decide +kernel
theorem dX10_take_85 : decode cX10_take 85 = .ok (.invokevirtual 105, 3) := by decide +kernel
theorem dX10_take_88 : decode cX10_take 88 = .ok (.aload_n 1, 1) := by decide +kernel
theorem dX10_take_89 : decode cX10_take 89 = .ok (.getfield 63, 3) := by decide +kernel
theorem dX10_take_92 : decode cX10_take 92 = .ok (.iconst 0, 1) := by decide +kernel
theorem dX10_take_93 : decode cX10_take 93 = .ok (.aload_n 0, 1) := by decide +kernel
theorem dX10_take_94 : decode cX10_take 94 = .ok (.getfield 63, 3) := by decide +kernel
theorem dX10_take_97 : decode cX10_take 97 = .ok (.iconst 0, 1) := by decide +kernel
theorem dX10_take_98 : decode cX10_take 98 = .ok (.sipush 900, 3) := by decide +kernel
theorem dX10_take_101 : decode cX10_take 101 = .ok (.invokestatic 108, 3) := by decide +kernel
theorem dX10_take_104 : decode cX10_take 104 = .ok (.aload_n 0, 1) := by decide +kernel
theorem dX10_take_105 : decode cX10_take 105 = .ok (.aload_n 1, 1) := by decide +kernel
theorem dX10_take_106 : decode cX10_take 106 = .ok (.getfield 114, 3) := by decide +kernel
theorem dX10_take_109 : decode cX10_take 109 = .ok (.putfield 114, 3) := by decide +kernel
theorem dX10_take_112 : decode cX10_take 112 = .ok (.aload_n 0, 1) := by decide +kernel
theorem dX10_take_113 : decode cX10_take 113 = .ok (.aload_n 1, 1) := by decide +kernel
theorem dX10_take_114 : decode cX10_take 114 = .ok (.getfield 117, 3) := by decide +kernel
theorem dX10_take_117 : decode cX10_take 117 = .ok (.putfield 117, 3) := by decide +kernel
theorem dX10_take_120 : decode cX10_take 120 = .ok (.aload_n 0, 1) := by decide +kernel
theorem dX10_take_121 : decode cX10_take 121 = .ok (.aload_n 1, 1) := by decide +kernel
theorem dX10_take_122 : decode cX10_take 122 = .ok (.getfield 67, 3) := by decide +kernel
theorem dX10_take_125 : decode cX10_take 125 = .ok (.putfield 67, 3) := by decide +kernel
theorem dX10_take_128 : decode cX10_take 128 = .ok (.aload_n 0, 1) := by decide +kernel
theorem dX10_take_129 : decode cX10_take 129 = .ok (.aload_n 1, 1) := by decide +kernel
theorem dX10_take_130 : decode cX10_take 130 = .ok (.getfield 71, 3) := by decide +kernel
theorem dX10_take_133 : decode cX10_take 133 = .ok (.putfield 71, 3) := by decide +kernel
theorem dX10_take_136 : decode cX10_take 136 = .ok (.return_, 1) := by decide +kernel
theorem dX10_tellOfAll_0 : decode cX10_tellOfAll 0 = .ok (.iload_n 1, 1) := by decide +kernel
theorem dX10_tellOfAll_1 : decode cX10_tellOfAll 1 = .ok (.tableswitch 78 0 4 #[35, 46, 54, 62, 70], 35) := by decide +kernel
theorem dX10_tellOfAll_36 : decode cX10_tellOfAll 36 = .ok (.aload_n 0, 1) := by decide +kernel
theorem dX10_tellOfAll_37 : decode cX10_tellOfAll 37 = .ok (.getfield 12, 3) := by decide +kernel
theorem dX10_tellOfAll_40 : decode cX10_tellOfAll 40 = .ok (.iload_n 2, 1) := by decide +kernel
theorem dX10_tellOfAll_41 : decode cX10_tellOfAll 41 = .ok (.putfield 120, 3) := by decide +kernel
theorem dX10_tellOfAll_44 : decode cX10_tellOfAll 44 = .ok (.goto 43, 3) := by decide +kernel
theorem dX10_tellOfAll_47 : decode cX10_tellOfAll 47 = .ok (.aload_n 0, 1) := by decide +kernel
theorem dX10_tellOfAll_48 : decode cX10_tellOfAll 48 = .ok (.iload_n 2, 1) := by decide +kernel
theorem dX10_tellOfAll_49 : decode cX10_tellOfAll 49 = .ok (.putfield 114, 3) := by decide +kernel
theorem dX10_tellOfAll_52 : decode cX10_tellOfAll 52 = .ok (.goto 35, 3) := by decide +kernel
theorem dX10_tellOfAll_55 : decode cX10_tellOfAll 55 = .ok (.aload_n 0, 1) := by decide +kernel
theorem dX10_tellOfAll_56 : decode cX10_tellOfAll 56 = .ok (.iload_n 2, 1) := by decide +kernel
theorem dX10_tellOfAll_57 : decode cX10_tellOfAll 57 = .ok (.putfield 117, 3) := by decide +kernel
theorem dX10_tellOfAll_60 : decode cX10_tellOfAll 60 = .ok (.goto 27, 3) := by decide +kernel
theorem dX10_tellOfAll_63 : decode cX10_tellOfAll 63 = .ok (.aload_n 0, 1) := by decide +kernel
theorem dX10_tellOfAll_64 : decode cX10_tellOfAll 64 = .ok (.iload_n 2, 1) := by decide +kernel
theorem dX10_tellOfAll_65 : decode cX10_tellOfAll 65 = .ok (.putfield 67, 3) := by decide +kernel
theorem dX10_tellOfAll_68 : decode cX10_tellOfAll 68 = .ok (.goto 19, 3) := by decide +kernel
theorem dX10_tellOfAll_71 : decode cX10_tellOfAll 71 = .ok (.aload_n 0, 1) := by decide +kernel
theorem dX10_tellOfAll_72 : decode cX10_tellOfAll 72 = .ok (.iload_n 2, 1) := by decide +kernel
theorem dX10_tellOfAll_73 : decode cX10_tellOfAll 73 = .ok (.putfield 71, 3) := by decide +kernel
theorem dX10_tellOfAll_76 : decode cX10_tellOfAll 76 = .ok (.goto 11, 3) := by decide +kernel
theorem dX10_tellOfAll_87 : decode cX10_tellOfAll 87 = .ok (.return_, 1) := by decide +kernel
theorem dX11_ask_0 : decode cX11_ask 0 = .ok (.iload_n 1, 1) := by decide +kernel
theorem dX11_ask_1 : decode cX11_ask 1 = .ok (.iconst 1, 1) := by decide +kernel
theorem dX11_ask_2 : decode cX11_ask 2 = .ok (.if_icmp .lt 18, 3) := by decide +kernel
theorem dX11_ask_5 : decode cX11_ask 5 = .ok (.iload_n 1, 1) := by decide +kernel
theorem dX11_ask_6 : decode cX11_ask 6 = .ok (.bipush 10, 2) := by decide +kernel
theorem dX11_ask_8 : decode cX11_ask 8 = .ok (.if_icmp .gt 12, 3) := by decide +kernel
theorem dX11_ask_11 : decode cX11_ask 11 = .ok (.iload_n 2, 1) := by decide +kernel
theorem dX11_ask_12 : decode cX11_ask 12 = .ok (.ifCond .lt 8, 3) := by decide +kernel
theorem dX11_ask_15 : decode cX11_ask 15 = .ok (.iload_n 2, 1) := by decide +kernel
theorem dX11_ask_16 : decode cX11_ask 16 = .ok (.iconst 1, 1) := by decide +kernel
theorem dX11_ask_17 : decode cX11_ask 17 = .ok (.if_icmp .le 5, 3) := by decide +kernel
theorem dX11_ask_20 : decode cX11_ask 20 = .ok (.iconst (-1), 1) := by decide +kernel
theorem dX11_ask_21 : decode cX11_ask 21 = .ok (.ireturn, 1) := by decide +kernel
theorem dX11_ask_22 : decode cX11_ask 22 = .ok (.aload_n 0, 1) := by decide +kernel
theorem dX11_ask_23 : decode cX11_ask 23 = .ok (.getfield 61, 3) := by decide +kernel
theorem dX11_ask_26 : decode cX11_ask 26 = .ok (.aload_n 0, 1) := by decide +kernel
theorem dX11_ask_27 : decode cX11_ask 27 = .ok (.getfield 12, 3) := by decide +kernel
theorem dX11_ask_30 : decode cX11_ask 30 = .ok (.iload_n 1, 1) := by decide +kernel
theorem dX11_ask_31 : decode cX11_ask 31 = .ok (.invokevirtual 358, 3) := by decide +kernel
theorem dX11_ask_34 : decode cX11_ask 34 = .ok (.lstore_n 3, 1) := by decide +kernel
theorem dX11_ask_35 : decode cX11_ask 35 = .ok (.lload_n 3, 1) := by decide +kernel
theorem dX11_ask_36 : decode cX11_ask 36 = .ok (.lconst 0, 1) := by decide +kernel
theorem dX11_ask_37 : decode cX11_ask 37 = .ok (.lcmp, 1) := by decide +kernel
theorem dX11_ask_38 : decode cX11_ask 38 = .ok (.ifCond .ne 5, 3) := by decide +kernel
theorem dX11_ask_41 : decode cX11_ask 41 = .ok (.iconst (-1), 1) := by decide +kernel
theorem dX11_ask_42 : decode cX11_ask 42 = .ok (.ireturn, 1) := by decide +kernel
theorem dX11_been_0 : decode cX11_been 0 = .ok (.iload_n 1, 1) := by decide +kernel
theorem dX11_been_1 : decode cX11_been 1 = .ok (.iconst 1, 1) := by decide +kernel
theorem dX11_been_2 : decode cX11_been 2 = .ok (.if_icmp .lt 18, 3) := by decide +kernel
theorem dX11_been_5 : decode cX11_been 5 = .ok (.iload_n 1, 1) := by decide +kernel
theorem dX11_been_6 : decode cX11_been 6 = .ok (.bipush 10, 2) := by decide +kernel
theorem dX11_been_8 : decode cX11_been 8 = .ok (.if_icmp .gt 12, 3) := by decide +kernel
theorem dX11_been_11 : decode cX11_been 11 = .ok (.iload_n 2, 1) := by decide +kernel
theorem dX11_been_12 : decode cX11_been 12 = .ok (.ifCond .lt 8, 3) := by decide +kernel
theorem dX11_been_15 : decode cX11_been 15 = .ok (.iload_n 2, 1) := by decide +kernel
theorem dX11_been_16 : decode cX11_been 16 = .ok (.iload_n 1, 1) := by decide +kernel
theorem dX11_been_17 : decode cX11_been 17 = .ok (.if_icmp .lt 5, 3) := by decide +kernel
theorem dX11_been_20 : decode cX11_been 20 = .ok (.iconst (-1), 1) := by decide +kernel
theorem dX11_been_21 : decode cX11_been 21 = .ok (.ireturn, 1) := by decide +kernel
theorem dX11_been_22 : decode cX11_been 22 = .ok (.aload_n 0, 1) := by decide +kernel
theorem dX11_been_23 : decode cX11_been 23 = .ok (.getfield 61, 3) := by decide +kernel
theorem dX11_been_26 : decode cX11_been 26 = .ok (.aload_n 0, 1) := by decide +kernel
theorem dX11_been_27 : decode cX11_been 27 = .ok (.getfield 12, 3) := by decide +kernel
theorem dX11_been_30 : decode cX11_been 30 = .ok (.iload_n 1, 1) := by decide +kernel
theorem dX11_been_31 : decode cX11_been 31 = .ok (.invokevirtual 358, 3) := by decide +kernel
theorem dX11_been_34 : decode cX11_been 34 = .ok (.pop2, 1) := by decide +kernel
theorem dX11_been_35 : decode cX11_been 35 = .ok (.iconst 0, 1) := by decide +kernel
theorem dX11_been_36 : decode cX11_been 36 = .ok (.istore_n 3, 1) := by decide +kernel
theorem dX11_been_37 : decode cX11_been 37 = .ok (.iconst 0, 1) := by decide +kernel
theorem dX11_been_38 : decode cX11_been 38 = .ok (.istore 4, 2) := by decide +kernel
theorem dX11_been_40 : decode cX11_been 40 = .ok (.iload 4, 2) := by decide +kernel
theorem dX11_been_42 : decode cX11_been 42 = .ok (.aload_n 0, 1) := by decide +kernel
theorem dX11_been_43 : decode cX11_been 43 = .ok (.getfield 12, 3) := by decide +kernel
theorem dX11_been_46 : decode cX11_been 46 = .ok (.getfield 79, 3) := by decide +kernel
theorem dX11_been_49 : decode cX11_been 49 = .ok (.getfield 89, 3) := by decide +kernel
theorem dX11_been_52 : decode cX11_been 52 = .ok (.if_icmp .ge 31, 3) := by decide +kernel
theorem dX11_been_83 : decode cX11_been 83 = .ok (.iload_n 3, 1) := by decide +kernel
theorem dX11_been_84 : decode cX11_been 84 = .ok (.ireturn, 1) := by decide +kernel
theorem dX11_best_0 : decode cX11_best 0 = .ok (.aload_n 0, 1) := by decide +kernel
theorem dX11_best_1 : decode cX11_best 1 = .ok (.getfield 12, 3) := by decide +kernel
theorem dX11_best_4 : decode cX11_best 4 = .ok (.getfield 79, 3) := by decide +kernel
theorem dX11_best_7 : decode cX11_best 7 = .ok (.iload_n 1, 1) := by decide +kernel
theorem dX11_best_8 : decode cX11_best 8 = .ok (.invokevirtual 111, 3) := by decide +kernel
theorem dX11_best_11 : decode cX11_best 11 = .ok (.ifCond .eq 14, 3) := by decide +kernel
theorem dX11_best_25 : decode cX11_best 25 = .ok (.iconst (-1), 1) := by decide +kernel
theorem dX11_best_26 : decode cX11_best 26 = .ok (.ireturn, 1) := by decide +kernel
theorem dX11_book_0 : decode cX11_book 0 = .ok (.iload_n 1, 1) := by decide +kernel
theorem dX11_book_1 : decode cX11_book 1 = .ok (.ifCond .lt 34, 3) := by decide +kernel
theorem dX11_book_4 : decode cX11_book 4 = .ok (.iload_n 1, 1) := by decide +kernel
theorem dX11_book_5 : decode cX11_book 5 = .ok (.aload_n 0, 1) := by decide +kernel
theorem dX11_book_6 : decode cX11_book 6 = .ok (.getfield 12, 3) := by decide +kernel
theorem dX11_book_9 : decode cX11_book 9 = .ok (.getfield 69, 3) := by decide +kernel
theorem dX11_book_12 : decode cX11_book 12 = .ok (.getfield 297, 3) := by decide +kernel
theorem dX11_book_15 : decode cX11_book 15 = .ok (.if_icmp .ge 20, 3) := by decide +kernel
theorem dX11_book_35 : decode cX11_book 35 = .ok (.iconst (-1), 1) := by decide +kernel
theorem dX11_book_36 : decode cX11_book 36 = .ok (.ireturn, 1) := by decide +kernel
theorem dX11_clue_0 : decode cX11_clue 0 = .ok (.aload_n 0, 1) := by decide +kernel
theorem dX11_clue_1 : decode cX11_clue 1 = .ok (.getfield 12, 3) := by decide +kernel
theorem dX11_clue_4 : decode cX11_clue 4 = .ok (.getfield 341, 3) := by decide +kernel
theorem dX11_clue_7 : decode cX11_clue 7 = .ok (.astore_n 3, 1) := by decide +kernel
theorem dX11_clue_8 : decode cX11_clue 8 = .ok (.iload_n 1, 1) := by decide +kernel
theorem dX11_clue_9 : decode cX11_clue 9 = .ok (.iconst (-1), 1) := by decide +kernel
theorem dX11_clue_10 : decode cX11_clue 10 = .ok (.if_icmp .ne 10, 3) := by decide +kernel
theorem dX11_clue_13 : decode cX11_clue 13 = .ok (.aload_n 3, 1) := by decide +kernel
theorem dX11_clue_14 : decode cX11_clue 14 = .ok (.iconst 0, 1) := by decide +kernel
theorem dX11_clue_15 : decode cX11_clue 15 = .ok (.putfield 345, 3) := by decide +kernel
theorem dX11_clue_18 : decode cX11_clue 18 = .ok (.iconst 0, 1) := by decide +kernel
theorem dX11_clue_19 : decode cX11_clue 19 = .ok (.ireturn, 1) := by decide +kernel
theorem dX11_clue_20 : decode cX11_clue 20 = .ok (.iload_n 2, 1) := by decide +kernel
theorem dX11_clue_21 : decode cX11_clue 21 = .ok (.ifCond .eq 24, 3) := by decide +kernel
theorem dX11_clue_24 : decode cX11_clue 24 = .ok (.iload_n 2, 1) := by decide +kernel
theorem dX11_clue_25 : decode cX11_clue 25 = .ok (.aload_n 0, 1) := by decide +kernel
theorem dX11_clue_26 : decode cX11_clue 26 = .ok (.getfield 12, 3) := by decide +kernel
theorem dX11_clue_29 : decode cX11_clue 29 = .ok (.getfield 79, 3) := by decide +kernel
theorem dX11_clue_32 : decode cX11_clue 32 = .ok (.invokevirtual 348, 3) := by decide +kernel
theorem dX11_clue_35 : decode cX11_clue 35 = .ok (.iconst (-1), 1) := by decide +kernel
theorem dX11_clue_36 : decode cX11_clue 36 = .ok (.ixor, 1) := by decide +kernel
theorem dX11_clue_37 : decode cX11_clue 37 = .ok (.iand, 1) := by decide +kernel
theorem dX11_clue_38 : decode cX11_clue 38 = .ok (.ifCond .ne 7, 3) := by decide +kernel
theorem dX11_clue_45 : decode cX11_clue 45 = .ok (.iconst 0, 1) := by decide +kernel
theorem dX11_clue_46 : decode cX11_clue 46 = .ok (.istore 4, 2) := by decide +kernel
theorem dX11_clue_48 : decode cX11_clue 48 = .ok (.iload_n 1, 1) := by decide +kernel
theorem dX11_clue_49 : decode cX11_clue 49 = .ok (.ifCond .lt 23, 3) := by decide +kernel
theorem dX11_clue_52 : decode cX11_clue 52 = .ok (.iload_n 1, 1) := by decide +kernel
theorem dX11_clue_53 : decode cX11_clue 53 = .ok (.bipush 10, 2) := by decide +kernel
theorem dX11_clue_55 : decode cX11_clue 55 = .ok (.if_icmp .ge 17, 3) := by decide +kernel
theorem dX11_clue_58 : decode cX11_clue 58 = .ok (.iload 4, 2) := by decide +kernel
theorem dX11_clue_60 : decode cX11_clue 60 = .ok (.ifCond .eq 12, 3) := by decide +kernel
theorem dX11_clue_72 : decode cX11_clue 72 = .ok (.iconst (-1), 1) := by decide +kernel
theorem dX11_clue_73 : decode cX11_clue 73 = .ok (.ireturn, 1) := by decide +kernel
theorem dX11_end_0 : decode cX11_end 0 = .ok (.iload_n 1, 1) := by decide +kernel
theorem dX11_end_1 : decode cX11_end 1 = .ok (.ifCond .lt 14, 3) := by decide +kernel
theorem dX11_end_4 : decode cX11_end 4 = .ok (.iload_n 1, 1) := by decide +kernel
theorem dX11_end_5 : decode cX11_end 5 = .ok (.aload_n 0, 1) := by decide +kernel
theorem dX11_end_6 : decode cX11_end 6 = .ok (.getfield 19, 3) := by decide +kernel
theorem dX11_end_9 : decode cX11_end 9 = .ok (.getfield 126, 3) := by decide +kernel
theorem dX11_end_12 : decode cX11_end 12 = .ok (.if_icmp .le 5, 3) := by decide +kernel
theorem dX11_end_15 : decode cX11_end 15 = .ok (.iconst 0, 1) := by decide +kernel
theorem dX11_end_16 : decode cX11_end 16 = .ok (.ireturn, 1) := by decide +kernel
theorem dX11_end_17 : decode cX11_end 17 = .ok (.aload_n 0, 1) := by decide +kernel
theorem dX11_end_18 : decode cX11_end 18 = .ok (.getfield 19, 3) := by decide +kernel
theorem dX11_end_21 : decode cX11_end 21 = .ok (.iload_n 1, 1) := by decide +kernel
theorem dX11_end_22 : decode cX11_end 22 = .ok (.putfield 126, 3) := by decide +kernel
theorem dX11_end_25 : decode cX11_end 25 = .ok (.iconst 1, 1) := by decide +kernel
theorem dX11_end_26 : decode cX11_end 26 = .ok (.ireturn, 1) := by decide +kernel
theorem dX11_far_0 : decode cX11_far 0 = .ok (.aload_n 0, 1) := by decide +kernel
theorem dX11_far_1 : decode cX11_far 1 = .ok (.getfield 12, 3) := by decide +kernel
theorem dX11_far_4 : decode cX11_far 4 = .ok (.getfield 79, 3) := by decide +kernel
theorem dX11_far_7 : decode cX11_far 7 = .ok (.iload_n 1, 1) := by decide +kernel
theorem dX11_far_8 : decode cX11_far 8 = .ok (.invokevirtual 111, 3) := by decide +kernel
theorem dX11_far_11 : decode cX11_far 11 = .ok (.ifCond .eq 17, 3) := by decide +kernel
theorem dX11_far_28 : decode cX11_far 28 = .ok (.iconst (-1), 1) := by decide +kernel
theorem dX11_far_29 : decode cX11_far 29 = .ok (.ireturn, 1) := by decide +kernel
theorem dX11_fault_0 : decode cX11_fault 0 = .ok (.iload_n 1, 1) := by decide +kernel
theorem dX11_fault_1 : decode cX11_fault 1 = .ok (.ifCond .ne 11, 3) := by decide +kernel
theorem dX11_fault_4 : decode cX11_fault 4 = .ok (.aload_n 0, 1) := by decide +kernel
theorem dX11_fault_5 : decode cX11_fault 5 = .ok (.getfield 19, 3) := by decide +kernel
theorem dX11_fault_8 : decode cX11_fault 8 = .ok (.getfield 145, 3) := by decide +kernel
theorem dX11_fault_11 : decode cX11_fault 11 = .ok (.ireturn, 1) := by decide +kernel
theorem dX11_fault_12 : decode cX11_fault 12 = .ok (.iload_n 1, 1) := by decide +kernel
theorem dX11_fault_13 : decode cX11_fault 13 = .ok (.iconst 1, 1) := by decide +kernel
theorem dX11_fault_14 : decode cX11_fault 14 = .ok (.if_icmp .ne 13, 3) := by decide +kernel
theorem dX11_fault_17 : decode cX11_fault 17 = .ok (.aload_n 0, 1) := by decide +kernel
theorem dX11_fault_18 : decode cX11_fault 18 = .ok (.getfield 19, 3) := by decide +kernel
theorem dX11_fault_21 : decode cX11_fault 21 = .ok (.getfield 192, 3) := by decide +kernel
theorem dX11_fault_24 : decode cX11_fault 24 = .ok (.goto 4, 3) := by decide +kernel
theorem dX11_fault_27 : decode cX11_fault 27 = .ok (.iconst (-1), 1) := by decide +kernel
theorem dX11_fault_28 : decode cX11_fault 28 = .ok (.ireturn, 1) := by decide +kernel
theorem dX11_feed_0 : decode cX11_feed 0 = .ok (.aload_n 0, 1) := by decide +kernel
theorem dX11_feed_1 : decode cX11_feed 1 = .ok (.getfield 19, 3) := by decide +kernel
theorem dX11_feed_4 : decode cX11_feed 4 = .ok (.getfield 126, 3) := by decide +kernel
theorem dX11_feed_7 : decode cX11_feed 7 = .ok (.bipush 20, 2) := by decide +kernel
theorem dX11_feed_9 : decode cX11_feed 9 = .ok (.iadd, 1) := by decide +kernel
theorem dX11_feed_10 : decode cX11_feed 10 = .ok (.sipush 400, 3) := by decide +kernel
theorem dX11_feed_13 : decode cX11_feed 13 = .ok (.if_icmp .le 5, 3) := by decide +kernel
theorem dX11_feed_18 : decode cX11_feed 18 = .ok (.aload_n 0, 1) := by decide +kernel
theorem dX11_feed_19 : decode cX11_feed 19 = .ok (.getfield 19, 3) := by decide +kernel
theorem dX11_feed_22 : decode cX11_feed 22 = .ok (.iload_n 1, 1) := by decide +kernel
theorem dX11_feed_23 : decode cX11_feed 23 = .ok (.invokevirtual 129, 3) := by decide +kernel
theorem dX11_feed_26 : decode cX11_feed 26 = .ok (.aload_n 0, 1) := by decide +kernel
theorem dX11_feed_27 : decode cX11_feed 27 = .ok (.getfield 19, 3) := by decide +kernel
theorem dX11_feed_30 : decode cX11_feed 30 = .ok (.iload_n 2, 1) := by decide +kernel
theorem dX11_feed_31 : decode cX11_feed 31 = .ok (.invokevirtual 129, 3) := by decide +kernel
theorem dX11_feed_34 : decode cX11_feed 34 = .ok (.aload_n 0, 1) := by decide +kernel
theorem dX11_feed_35 : decode cX11_feed 35 = .ok (.getfield 19, 3) := by decide +kernel
theorem dX11_feed_38 : decode cX11_feed 38 = .ok (.iload_n 3, 1) := by decide +kernel
theorem dX11_feed_39 : decode cX11_feed 39 = .ok (.invokevirtual 129, 3) := by decide +kernel
theorem dX11_feed_42 : decode cX11_feed 42 = .ok (.aload_n 0, 1) := by decide +kernel
theorem dX11_feed_43 : decode cX11_feed 43 = .ok (.getfield 19, 3) := by decide +kernel
theorem dX11_feed_46 : decode cX11_feed 46 = .ok (.iload 4, 2) := by decide +kernel
theorem dX11_feed_48 : decode cX11_feed 48 = .ok (.invokevirtual 129, 3) := by decide +kernel
theorem dX11_feed_51 : decode cX11_feed 51 = .ok (.aload_n 0, 1) := by decide +kernel
theorem dX11_feed_52 : decode cX11_feed 52 = .ok (.getfield 19, 3) := by decide +kernel
theorem dX11_feed_55 : decode cX11_feed 55 = .ok (.iload 5, 2) := by decide +kernel
theorem dX11_feed_57 : decode cX11_feed 57 = .ok (.invokevirtual 129, 3) := by decide +kernel
theorem dX11_feed_60 : decode cX11_feed 60 = .ok (.aload_n 0, 1) := by decide +kernel
theorem dX11_feed_61 : decode cX11_feed 61 = .ok (.getfield 19, 3) := by decide +kernel
theorem dX11_feed_64 : decode cX11_feed 64 = .ok (.getfield 126, 3) := by decide +kernel
theorem dX11_feed_67 : decode cX11_feed 67 = .ok (.ireturn, 1) := by decide +kernel
theorem dX11_forgetNights_0 : decode cX11_forgetNights 0 = .ok (.aload_n 0, 1) := by decide +kernel
theorem dX11_forgetNights_1 : decode cX11_forgetNights 1 = .ok (.iconst 0, 1) := by decide +kernel
theorem dX11_forgetNights_2 : decode cX11_forgetNights 2 = .ok (.putfield 211, 3) := by decide +kernel
theorem dX11_forgetNights_5 : decode cX11_forgetNights 5 = .ok (.aload_n 0, 1) := by decide +kernel
theorem dX11_forgetNights_6 : decode cX11_forgetNights 6 = .ok (.iconst 0, 1) := by decide +kernel
theorem dX11_forgetNights_7 : decode cX11_forgetNights 7 = .ok (.putfield 208, 3) := by decide +kernel
theorem dX11_forgetNights_10 : decode cX11_forgetNights 10 = .ok (.aload_n 0, 1) := by decide +kernel
theorem dX11_forgetNights_11 : decode cX11_forgetNights 11 = .ok (.invokevirtual 205, 3) := by decide +kernel
theorem dX11_forgetNights_14 : decode cX11_forgetNights 14 = .ok (.return_, 1) := by decide +kernel
theorem dX11_forgetPlan_0 : decode cX11_forgetPlan 0 = .ok (.aload_n 0, 1) := by decide +kernel
theorem dX11_forgetPlan_1 : decode cX11_forgetPlan 1 = .ok (.getfield 217, 3) := by decide +kernel
theorem dX11_forgetPlan_4 : decode cX11_forgetPlan 4 = .ok (.ifnull 11, 3) := by decide +kernel
theorem dX11_forgetPlan_15 : decode cX11_forgetPlan 15 = .ok (.return_, 1) := by decide +kernel
theorem dX11_friends_0 : decode cX11_friends 0 = .ok (.aload_n 0, 1) := by decide +kernel
theorem dX11_friends_1 : decode cX11_friends 1 = .ok (.getfield 12, 3) := by decide +kernel
theorem dX11_friends_4 : decode cX11_friends 4 = .ok (.getfield 79, 3) := by decide +kernel
theorem dX11_friends_7 : decode cX11_friends 7 = .ok (.astore 4, 2) := by decide +kernel
theorem dX11_friends_9 : decode cX11_friends 9 = .ok (.aload 4, 2) := by decide +kernel
theorem dX11_friends_11 : decode cX11_friends 11 = .ok (.iload_n 1, 1) := by decide +kernel
theorem dX11_friends_12 : decode cX11_friends 12 = .ok (.invokevirtual 111, 3) := by decide +kernel
theorem dX11_friends_15 : decode cX11_friends 15 = .ok (.ifCond .eq 17, 3) := by decide +kernel
theorem dX11_friends_32 : decode cX11_friends 32 = .ok (.iconst 0, 1) := by decide +kernel
theorem dX11_friends_33 : decode cX11_friends 33 = .ok (.ireturn, 1) := by decide +kernel
theorem dX11_house_0 : decode cX11_house 0 = .ok (.aload_n 0, 1) := by decide +kernel
theorem dX11_house_1 : decode cX11_house 1 = .ok (.getfield 12, 3) := by decide +kernel
theorem dX11_house_4 : decode cX11_house 4 = .ok (.getfield 79, 3) := by decide +kernel
theorem dX11_house_7 : decode cX11_house 7 = .ok (.astore 4, 2) := by decide +kernel
theorem dX11_house_9 : decode cX11_house 9 = .ok (.iload_n 2, 1) := by decide +kernel
theorem dX11_house_10 : decode cX11_house 10 = .ok (.iconst 1, 1) := by decide +kernel
theorem dX11_house_11 : decode cX11_house 11 = .ok (.if_icmp .lt 29, 3) := by decide +kernel
theorem dX11_house_14 : decode cX11_house 14 = .ok (.iload_n 2, 1) := by decide +kernel
theorem dX11_house_15 : decode cX11_house 15 = .ok (.bipush 20, 2) := by decide +kernel
theorem dX11_house_17 : decode cX11_house 17 = .ok (.if_icmp .gt 23, 3) := by decide +kernel
theorem dX11_house_20 : decode cX11_house 20 = .ok (.iload_n 3, 1) := by decide +kernel
theorem dX11_house_21 : decode cX11_house 21 = .ok (.ifCond .lt 19, 3) := by decide +kernel
theorem dX11_house_24 : decode cX11_house 24 = .ok (.iload_n 3, 1) := by decide +kernel
theorem dX11_house_25 : decode cX11_house 25 = .ok (.sipush 999, 3) := by decide +kernel
theorem dX11_house_28 : decode cX11_house 28 = .ok (.if_icmp .gt 12, 3) := by decide +kernel
theorem dX11_house_31 : decode cX11_house 31 = .ok (.aload 4, 2) := by decide +kernel
theorem dX11_house_33 : decode cX11_house 33 = .ok (.iload_n 1, 1) := by decide +kernel
theorem dX11_house_34 : decode cX11_house 34 = .ok (.invokevirtual 83, 3) := by decide +kernel
theorem dX11_house_37 : decode cX11_house 37 = .ok (.ifCond .ne 5, 3) := by decide +kernel
theorem dX11_house_40 : decode cX11_house 40 = .ok (.iconst (-1), 1) := by decide +kernel
theorem dX11_house_41 : decode cX11_house 41 = .ok (.ireturn, 1) := by decide +kernel
theorem dX11_house_42 : decode cX11_house 42 = .ok (.aload 4, 2) := by decide +kernel
theorem dX11_house_44 : decode cX11_house 44 = .ok (.getfield 89, 3) := by decide +kernel
theorem dX11_house_47 : decode cX11_house 47 = .ok (.bipush 10, 2) := by decide +kernel
theorem dX11_house_49 : decode cX11_house 49 = .ok (.if_icmp .lt 5, 3) := by decide +kernel
theorem dX11_house_54 : decode cX11_house 54 = .ok (.aload 4, 2) := by decide +kernel
theorem dX11_house_56 : decode cX11_house 56 = .ok (.getfield 89, 3) := by decide +kernel
theorem dX11_house_59 : decode cX11_house 59 = .ok (.istore 5, 2) := by decide +kernel
theorem dX11_house_61 : decode cX11_house 61 = .ok (.aload 4, 2) := by decide +kernel
theorem dX11_house_63 : decode cX11_house 63 = .ok (.getfield 92, 3) := by decide +kernel
theorem dX11_house_66 : decode cX11_house 66 = .ok (.iload 5, 2) := by decide +kernel
theorem dX11_house_68 : decode cX11_house 68 = .ok (.iload_n 1, 1) := by decide +kernel
theorem dX11_house_69 : decode cX11_house 69 = .ok (.iastore, 1) := by decide +kernel
theorem dX11_house_70 : decode cX11_house 70 = .ok (.aload 4, 2) := by decide +kernel
theorem dX11_house_72 : decode cX11_house 72 = .ok (.getfield 96, 3) := by decide +kernel
theorem dX11_house_75 : decode cX11_house 75 = .ok (.iload 5, 2) := by decide +kernel
theorem dX11_house_77 : decode cX11_house 77 = .ok (.iload_n 2, 1) := by decide +kernel
theorem dX11_house_78 : decode cX11_house 78 = .ok (.iastore, 1) := by decide +kernel
theorem dX11_house_79 : decode cX11_house 79 = .ok (.aload_n 0, 1) := by decide +kernel
theorem dX11_house_80 : decode cX11_house 80 = .ok (.getfield 12, 3) := by decide +kernel
theorem dX11_house_83 : decode cX11_house 83 = .ok (.getfield 69, 3) := by decide +kernel
theorem dX11_house_86 : decode cX11_house 86 = .ok (.getfield 99, 3) := by decide +kernel
theorem dX11_house_89 : decode cX11_house 89 = .ok (.iload 5, 2) := by decide +kernel
theorem dX11_house_91 : decode cX11_house 91 = .ok (.iload_n 3, 1) := by decide +kernel
theorem dX11_house_92 : decode cX11_house 92 = .ok (.iastore, 1) := by decide +kernel
theorem dX11_house_93 : decode cX11_house 93 = .ok (.aload 4, 2) := by decide +kernel
theorem dX11_house_95 : decode cX11_house 95 = .ok (.iload 5, 2) := by decide +kernel
theorem dX11_house_97 : decode cX11_house 97 = .ok (.iconst 1, 1) := by decide +kernel
theorem dX11_house_98 : decode cX11_house 98 = .ok (.iadd, 1) := by decide +kernel
theorem dX11_house_99 : decode cX11_house 99 = .ok (.putfield 89, 3) := by decide +kernel
theorem dX11_house_102 : decode cX11_house 102 = .ok (.iload 5, 2) := by decide +kernel
theorem dX11_house_104 : decode cX11_house 104 = .ok (.ifCond .ne 14, 3) := by decide +kernel
theorem dX11_house_107 : decode cX11_house 107 = .ok (.aload_n 0, 1) := by decide +kernel
theorem dX11_house_108 : decode cX11_house 108 = .ok (.getfield 12, 3) := by decide +kernel
theorem dX11_house_111 : decode cX11_house 111 = .ok (.getfield 69, 3) := by decide +kernel
theorem dX11_house_114 : decode cX11_house 114 = .ok (.iconst 0, 1) := by decide +kernel
theorem dX11_house_115 : decode cX11_house 115 = .ok (.putfield 102, 3) := by decide +kernel
theorem dX11_house_118 : decode cX11_house 118 = .ok (.aload_n 0, 1) := by decide +kernel
theorem dX11_house_119 : decode cX11_house 119 = .ok (.invokevirtual 76, 3) := by decide +kernel
theorem dX11_house_122 : decode cX11_house 122 = .ok (.iload 5, 2) := by decide +kernel
theorem dX11_house_124 : decode cX11_house 124 = .ok (.ireturn, 1) := by decide +kernel
theorem dX11_image_0 : decode cX11_image 0 = .ok (.iload_n 1, 1) := by decide +kernel
theorem dX11_image_1 : decode cX11_image 1 = .ok (.ifCond .eq 34, 3) := by decide +kernel
theorem dX11_image_4 : decode cX11_image 4 = .ok (.aload_n 0, 1) := by decide +kernel
theorem dX11_image_5 : decode cX11_image 5 = .ok (.getfield 370, 3) := by decide +kernel
theorem dX11_image_8 : decode cX11_image 8 = .ok (.ifnonnull 14, 3) := by decide +kernel
theorem dX11_image_11 : decode cX11_image 11 = .ok (.aload_n 0, 1) := by decide +kernel
theorem dX11_image_12 : decode cX11_image 12 = .ok (.new 9, 3) := by decide +kernel
theorem dX11_image_15 : decode cX11_image 15 = .ok (.dup, 1) := by decide +kernel
theorem dX11_image_16 : decode cX11_image 16 = .ok (.invokespecial 11, 3) := by decide +kernel
theorem dX11_image_19 : decode cX11_image 19 = .ok (.putfield 370, 3) := by decide +kernel
theorem dX11_image_22 : decode cX11_image 22 = .ok (.aload_n 0, 1) := by decide +kernel
theorem dX11_image_23 : decode cX11_image 23 = .ok (.getfield 370, 3) := by decide +kernel
theorem dX11_image_26 : decode cX11_image 26 = .ok (.aload_n 0, 1) := by decide +kernel
theorem dX11_image_27 : decode cX11_image 27 = .ok (.getfield 12, 3) := by decide +kernel
theorem dX11_image_30 : decode cX11_image 30 = .ok (.invokevirtual 373, 3) := by decide +kernel
theorem dX11_image_33 : decode cX11_image 33 = .ok (.iconst 1, 1) := by decide +kernel
theorem dX11_image_34 : decode cX11_image 34 = .ok (.ireturn, 1) := by decide +kernel
theorem dX11_image_35 : decode cX11_image 35 = .ok (.aload_n 0, 1) := by decide +kernel
theorem dX11_image_36 : decode cX11_image 36 = .ok (.getfield 370, 3) := by decide +kernel
theorem dX11_image_39 : decode cX11_image 39 = .ok (.ifnonnull 5, 3) := by decide +kernel
theorem dX11_image_42 : decode cX11_image 42 = .ok (.iconst 0, 1) := by decide +kernel
theorem dX11_image_43 : decode cX11_image 43 = .ok (.ireturn, 1) := by decide +kernel
theorem dX11_init_0 : decode cX11_init 0 = .ok (.aload_n 0, 1) := by decide +kernel
theorem dX11_init_1 : decode cX11_init 1 = .ok (.invokespecial 3, 3) := by decide +kernel
theorem dX11_init_4 : decode cX11_init 4 = .ok (.aload_n 0, 1) := by decide +kernel
theorem dX11_init_5 : decode cX11_init 5 = .ok (.new 9, 3) := by decide +kernel
theorem dX11_init_8 : decode cX11_init 8 = .ok (.dup, 1) := by decide +kernel
theorem dX11_init_9 : decode cX11_init 9 = .ok (.invokespecial 11, 3) := by decide +kernel
theorem dX11_init_12 : decode cX11_init 12 = .ok (.putfield 12, 3) := by decide +kernel
theorem dX11_init_15 : decode cX11_init 15 = .ok (.aload_n 0, 1) := by decide +kernel
theorem dX11_init_16 : decode cX11_init 16 = .ok (.new 16, 3) := by decide +kernel
theorem dX11_init_19 : decode cX11_init 19 = .ok (.dup, 1) := by decide +kernel
theorem dX11_init_20 : decode cX11_init 20 = .ok (.invokespecial 18, 3) := by decide +kernel
theorem dX11_init_23 : decode cX11_init 23 = .ok (.putfield 19, 3) := by decide +kernel
theorem dX11_init_26 : decode cX11_init 26 = .ok (.aload_n 0, 1) := by decide +kernel
theorem dX11_init_27 : decode cX11_init 27 = .ok (.new 23, 3) := by decide +kernel
theorem dX11_init_30 : decode cX11_init 30 = .ok (.dup, 1) := by decide +kernel
theorem dX11_init_31 : decode cX11_init 31 = .ok (.invokespecial 25, 3) := by decide +kernel
theorem dX11_init_34 : decode cX11_init 34 = .ok (.putfield 26, 3) := by decide +kernel
theorem dX11_init_37 : decode cX11_init 37 = .ok (.aload_n 0, 1) := by decide +kernel
theorem dX11_init_38 : decode cX11_init 38 = .ok (.new 30, 3) := by decide +kernel
theorem dX11_init_41 : decode cX11_init 41 = .ok (.dup, 1) := by decide +kernel
theorem dX11_init_42 : decode cX11_init 42 = .ok (.invokespecial 32, 3) := by decide +kernel
theorem dX11_init_45 : decode cX11_init 45 = .ok (.putfield 33, 3) := by decide +kernel
theorem dX11_init_48 : decode cX11_init 48 = .ok (.aload_n 0, 1) := by decide +kernel
theorem dX11_init_49 : decode cX11_init 49 = .ok (.new 37, 3) := by decide +kernel
theorem dX11_init_52 : decode cX11_init 52 = .ok (.dup, 1) := by decide +kernel
theorem dX11_init_53 : decode cX11_init 53 = .ok (.invokespecial 39, 3) := by decide +kernel
theorem dX11_init_56 : decode cX11_init 56 = .ok (.putfield 40, 3) := by decide +kernel
theorem dX11_init_59 : decode cX11_init 59 = .ok (.aload_n 0, 1) := by decide +kernel
theorem dX11_init_60 : decode cX11_init 60 = .ok (.new 44, 3) := by decide +kernel
theorem dX11_init_63 : decode cX11_init 63 = .ok (.dup, 1) := by decide +kernel
theorem dX11_init_64 : decode cX11_init 64 = .ok (.invokespecial 46, 3) := by decide +kernel
theorem dX11_init_67 : decode cX11_init 67 = .ok (.putfield 47, 3) := by decide +kernel
theorem dX11_init_70 : decode cX11_init 70 = .ok (.aload_n 0, 1) := by decide +kernel
theorem dX11_init_71 : decode cX11_init 71 = .ok (.new 51, 3) := by decide +kernel
theorem dX11_init_74 : decode cX11_init 74 = .ok (.dup, 1) := by decide +kernel
theorem dX11_init_75 : decode cX11_init 75 = .ok (.invokespecial 53, 3) := by decide +kernel
theorem dX11_init_78 : decode cX11_init 78 = .ok (.putfield 54, 3) := by decide +kernel
theorem dX11_init_81 : decode cX11_init 81 = .ok (.aload_n 0, 1) := by decide +kernel
theorem dX11_init_82 : decode cX11_init 82 = .ok (.new 58, 3) := by decide +kernel
theorem dX11_init_85 : decode cX11_init 85 = .ok (.dup, 1) := by decide +kernel
theorem dX11_init_86 : decode cX11_init 86 = .ok (.invokespecial 60, 3) := by decide +kernel
theorem dX11_init_89 : decode cX11_init 89 = .ok (.putfield 61, 3) := by decide +kernel
theorem dX11_init_92 : decode cX11_init 92 = .ok (.aload_n 0, 1) := by decide +kernel
theorem dX11_init_93 : decode cX11_init 93 = .ok (.bipush 6, 2) := by decide +kernel
theorem dX11_init_95 : decode cX11_init 95 = .ok (.anewarray 51, 3) := by decide +kernel
theorem dX11_init_98 : decode cX11_init 98 = .ok (.putfield 65, 3) := by decide +kernel
theorem dX11_init_101 : decode cX11_init 101 = .ok (.iconst 0, 1) := by decide +kernel
theorem dX11_init_102 : decode cX11_init 102 = .ok (.istore_n 1, 1) := by decide +kernel
theorem dX11_init_103 : decode cX11_init 103 = .ok (.iload_n 1, 1) := by decide +kernel
theorem dX11_init_104 : decode cX11_init 104 = .ok (.bipush 6, 2) := by decide +kernel
theorem dX11_init_106 : decode cX11_init 106 = .ok (.if_icmp .ge 22, 3) := by decide +kernel
theorem dX11_init_109 : decode cX11_init 109 = .ok (.aload_n 0, 1) := by decide +kernel
theorem dX11_init_110 : decode cX11_init 110 = .ok (.getfield 65, 3) := by decide +kernel
theorem dX11_init_113 : decode cX11_init 113 = .ok (.iload_n 1, 1) := by decide +kernel
theorem dX11_init_114 : decode cX11_init 114 = .ok (.new 51, 3) := by decide +kernel
theorem dX11_init_117 : decode cX11_init 117 = .ok (.dup, 1) := by decide +kernel
theorem dX11_init_118 : decode cX11_init 118 = .ok (.invokespecial 53, 3) := by decide +kernel
theorem dX11_init_121 : decode cX11_init 121 = .ok (.aastore, 1) := by decide +kernel
theorem dX11_init_122 : decode cX11_init 122 = .ok (.iinc 1 1, 3) := by decide +kernel
theorem dX11_init_125 : decode cX11_init 125 = .ok (.goto (-22), 3) := by decide +kernel
theorem dX11_init_128 : decode cX11_init 128 = .ok (.return_, 1) := by decide +kernel
theorem dX11_liars_0 : decode cX11_liars 0 = .ok (.iconst 0, 1) := by decide +kernel
theorem dX11_liars_1 : decode cX11_liars 1 = .ok (.istore_n 1, 1) := by decide +kernel
theorem dX11_liars_2 : decode cX11_liars 2 = .ok (.iconst 0, 1) := by decide +kernel
theorem dX11_liars_3 : decode cX11_liars 3 = .ok (.istore_n 2, 1) := by decide +kernel
theorem dX11_liars_4 : decode cX11_liars 4 = .ok (.iload_n 2, 1) := by decide +kernel
theorem dX11_liars_5 : decode cX11_liars 5 = .ok (.aload_n 0, 1) := by decide +kernel
theorem dX11_liars_6 : decode cX11_liars 6 = .ok (.getfield 12, 3) := by decide +kernel
theorem dX11_liars_9 : decode cX11_liars 9 = .ok (.getfield 79, 3) := by decide +kernel
theorem dX11_liars_12 : decode cX11_liars 12 = .ok (.getfield 89, 3) := by decide +kernel
theorem dX11_liars_15 : decode cX11_liars 15 = .ok (.if_icmp .ge 48, 3) := by decide +kernel
theorem dX11_liars_63 : decode cX11_liars 63 = .ok (.iload_n 1, 1) := by decide +kernel
theorem dX11_liars_64 : decode cX11_liars 64 = .ok (.ireturn, 1) := by decide +kernel
theorem dX11_look_0 : decode cX11_look 0 = .ok (.aload_n 0, 1) := by decide +kernel
theorem dX11_look_1 : decode cX11_look 1 = .ok (.getfield 12, 3) := by decide +kernel
theorem dX11_look_4 : decode cX11_look 4 = .ok (.getfield 69, 3) := by decide +kernel
theorem dX11_look_7 : decode cX11_look 7 = .ok (.astore_n 2, 1) := by decide +kernel
theorem dX11_look_8 : decode cX11_look 8 = .ok (.iload_n 1, 1) := by decide +kernel
theorem dX11_look_9 : decode cX11_look 9 = .ok (.tableswitch 259 0 24 #[115, 126, 131, 136, 141, 146, 157, 168, 184, 195, 206, 217, 259, 259, 259, 259, 259, 259, 259, 259, 222, 227, 235, 243, 251], 115) := by decide +kernel
theorem dX11_look_124 : decode cX11_look 124 = .ok (.aload_n 0, 1) := by decide +kernel
theorem dX11_look_125 : decode cX11_look 125 = .ok (.getfield 12, 3) := by decide +kernel
theorem dX11_look_128 : decode cX11_look 128 = .ok (.getfield 79, 3) := by decide +kernel
theorem dX11_look_131 : decode cX11_look 131 = .ok (.getfield 89, 3) := by decide +kernel
theorem dX11_look_134 : decode cX11_look 134 = .ok (.ireturn, 1) := by decide +kernel
theorem dX11_look_135 : decode cX11_look 135 = .ok (.aload_n 2, 1) := by decide +kernel
theorem dX11_look_136 : decode cX11_look 136 = .ok (.getfield 102, 3) := by decide +kernel
theorem dX11_look_139 : decode cX11_look 139 = .ok (.ireturn, 1) := by decide +kernel
theorem dX11_look_140 : decode cX11_look 140 = .ok (.aload_n 2, 1) := by decide +kernel
theorem dX11_look_141 : decode cX11_look 141 = .ok (.getfield 195, 3) := by decide +kernel
theorem dX11_look_144 : decode cX11_look 144 = .ok (.ireturn, 1) := by decide +kernel
theorem dX11_look_145 : decode cX11_look 145 = .ok (.aload_n 2, 1) := by decide +kernel
theorem dX11_look_146 : decode cX11_look 146 = .ok (.getfield 297, 3) := by decide +kernel
theorem dX11_look_149 : decode cX11_look 149 = .ok (.ireturn, 1) := by decide +kernel
theorem dX11_look_150 : decode cX11_look 150 = .ok (.aload_n 2, 1) := by decide +kernel
theorem dX11_look_151 : decode cX11_look 151 = .ok (.getfield 72, 3) := by decide +kernel
theorem dX11_look_154 : decode cX11_look 154 = .ok (.ireturn, 1) := by decide +kernel
theorem dX11_look_155 : decode cX11_look 155 = .ok (.aload_n 0, 1) := by decide +kernel
theorem dX11_look_156 : decode cX11_look 156 = .ok (.getfield 12, 3) := by decide +kernel
theorem dX11_look_159 : decode cX11_look 159 = .ok (.getfield 172, 3) := by decide +kernel
theorem dX11_look_162 : decode cX11_look 162 = .ok (.getfield 181, 3) := by decide +kernel
theorem dX11_look_165 : decode cX11_look 165 = .ok (.ireturn, 1) := by decide +kernel
theorem dX11_look_166 : decode cX11_look 166 = .ok (.aload_n 0, 1) := by decide +kernel
theorem dX11_look_167 : decode cX11_look 167 = .ok (.getfield 12, 3) := by decide +kernel
theorem dX11_look_170 : decode cX11_look 170 = .ok (.getfield 165, 3) := by decide +kernel
theorem dX11_look_173 : decode cX11_look 173 = .ok (.getfield 171, 3) := by decide +kernel
theorem dX11_look_176 : decode cX11_look 176 = .ok (.ireturn, 1) := by decide +kernel
theorem dX11_look_177 : decode cX11_look 177 = .ok (.aload_n 0, 1) := by decide +kernel
theorem dX11_look_178 : decode cX11_look 178 = .ok (.getfield 12, 3) := by decide +kernel
theorem dX11_look_181 : decode cX11_look 181 = .ok (.getfield 182, 3) := by decide +kernel
theorem dX11_look_184 : decode cX11_look 184 = .ok (.getfield 191, 3) := by decide +kernel
theorem dX11_look_187 : decode cX11_look 187 = .ok (.aload_n 2, 1) := by decide +kernel
theorem dX11_look_188 : decode cX11_look 188 = .ok (.getfield 188, 3) := by decide +kernel
theorem dX11_look_191 : decode cX11_look 191 = .ok (.isub, 1) := by decide +kernel
theorem dX11_look_192 : decode cX11_look 192 = .ok (.ireturn, 1) := by decide +kernel
theorem dX11_look_193 : decode cX11_look 193 = .ok (.aload_n 0, 1) := by decide +kernel
theorem dX11_look_194 : decode cX11_look 194 = .ok (.getfield 12, 3) := by decide +kernel
theorem dX11_look_197 : decode cX11_look 197 = .ok (.getfield 152, 3) := by decide +kernel
theorem dX11_look_200 : decode cX11_look 200 = .ok (.getfield 159, 3) := by decide +kernel
theorem dX11_look_203 : decode cX11_look 203 = .ok (.ireturn, 1) := by decide +kernel
theorem dX11_look_204 : decode cX11_look 204 = .ok (.aload_n 0, 1) := by decide +kernel
theorem dX11_look_205 : decode cX11_look 205 = .ok (.getfield 12, 3) := by decide +kernel
theorem dX11_look_208 : decode cX11_look 208 = .ok (.getfield 162, 3) := by decide +kernel
theorem dX11_look_211 : decode cX11_look 211 = .ok (.getfield 159, 3) := by decide +kernel
theorem dX11_look_214 : decode cX11_look 214 = .ok (.ireturn, 1) := by decide +kernel
theorem dX11_look_215 : decode cX11_look 215 = .ok (.aload_n 0, 1) := by decide +kernel
theorem dX11_look_216 : decode cX11_look 216 = .ok (.getfield 12, 3) := by decide +kernel
theorem dX11_look_219 : decode cX11_look 219 = .ok (.getfield 341, 3) := by decide +kernel
theorem dX11_look_222 : decode cX11_look 222 = .ok (.getfield 345, 3) := by decide +kernel
theorem dX11_look_225 : decode cX11_look 225 = .ok (.ireturn, 1) := by decide +kernel
theorem dX11_look_226 : decode cX11_look 226 = .ok (.aload_n 0, 1) := by decide +kernel
theorem dX11_look_227 : decode cX11_look 227 = .ok (.getfield 211, 3) := by decide +kernel
theorem dX11_look_230 : decode cX11_look 230 = .ok (.ireturn, 1) := by decide +kernel
theorem dX11_look_231 : decode cX11_look 231 = .ok (.aload_n 2, 1) := by decide +kernel
theorem dX11_look_232 : decode cX11_look 232 = .ok (.getfield 265, 3) := by decide +kernel
theorem dX11_look_235 : decode cX11_look 235 = .ok (.ireturn, 1) := by decide +kernel
theorem dX11_look_236 : decode cX11_look 236 = .ok (.aload_n 0, 1) := by decide +kernel
theorem dX11_look_237 : decode cX11_look 237 = .ok (.getfield 12, 3) := by decide +kernel
theorem dX11_look_240 : decode cX11_look 240 = .ok (.getfield 376, 3) := by decide +kernel
theorem dX11_look_243 : decode cX11_look 243 = .ok (.ireturn, 1) := by decide +kernel
theorem dX11_look_244 : decode cX11_look 244 = .ok (.aload_n 0, 1) := by decide +kernel
theorem dX11_look_245 : decode cX11_look 245 = .ok (.getfield 12, 3) := by decide +kernel
theorem dX11_look_248 : decode cX11_look 248 = .ok (.getfield 255, 3) := by decide +kernel
theorem dX11_look_251 : decode cX11_look 251 = .ok (.ireturn, 1) := by decide +kernel
theorem dX11_look_252 : decode cX11_look 252 = .ok (.aload_n 0, 1) := by decide +kernel
theorem dX11_look_253 : decode cX11_look 253 = .ok (.getfield 12, 3) := by decide +kernel
theorem dX11_look_256 : decode cX11_look 256 = .ok (.getfield 379, 3) := by decide +kernel
theorem dX11_look_259 : decode cX11_look 259 = .ok (.ireturn, 1) := by decide +kernel
theorem dX11_look_260 : decode cX11_look 260 = .ok (.aload_n 0, 1) := by decide +kernel
theorem dX11_look_261 : decode cX11_look 261 = .ok (.getfield 12, 3) := by decide +kernel
theorem dX11_look_264 : decode cX11_look 264 = .ok (.getfield 382, 3) := by decide +kernel
theorem dX11_look_267 : decode cX11_look 267 = .ok (.ireturn, 1) := by decide +kernel
theorem dX11_look_268 : decode cX11_look 268 = .ok (.sipush (-1000), 3) := by decide +kernel
theorem dX11_look_271 : decode cX11_look 271 = .ok (.ireturn, 1) := by decide +kernel
theorem dX11_mend_0 : decode cX11_mend 0 = .ok (.iload_n 1, 1) := by decide +kernel
theorem dX11_mend_1 : decode cX11_mend 1 = .ok (.iconst (-1), 1) := by decide +kernel
theorem dX11_mend_2 : decode cX11_mend 2 = .ok (.if_icmp .eq 19, 3) := by decide +kernel
theorem dX11_mend_5 : decode cX11_mend 5 = .ok (.aload_n 0, 1) := by decide +kernel
theorem dX11_mend_6 : decode cX11_mend 6 = .ok (.getfield 12, 3) := by decide +kernel
theorem dX11_mend_9 : decode cX11_mend 9 = .ok (.getfield 79, 3) := by decide +kernel
theorem dX11_mend_12 : decode cX11_mend 12 = .ok (.iload_n 1, 1) := by decide +kernel
theorem dX11_mend_13 : decode cX11_mend 13 = .ok (.invokevirtual 111, 3) := by decide +kernel
theorem dX11_mend_16 : decode cX11_mend 16 = .ok (.ifCond .ne 5, 3) := by decide +kernel
theorem dX11_mend_19 : decode cX11_mend 19 = .ok (.iconst (-1), 1) := by decide +kernel
theorem dX11_mend_20 : decode cX11_mend 20 = .ok (.ireturn, 1) := by decide +kernel
theorem dX11_mend_21 : decode cX11_mend 21 = .ok (.aload_n 0, 1) := by decide +kernel
theorem dX11_mend_22 : decode cX11_mend 22 = .ok (.getfield 12, 3) := by decide +kernel
theorem dX11_mend_25 : decode cX11_mend 25 = .ok (.getfield 69, 3) := by decide +kernel
theorem dX11_mend_28 : decode cX11_mend 28 = .ok (.getfield 230, 3) := by decide +kernel
theorem dX11_mend_31 : decode cX11_mend 31 = .ok (.astore_n 2, 1) := by decide +kernel
theorem dX11_mend_32 : decode cX11_mend 32 = .ok (.aload_n 0, 1) := by decide +kernel
theorem dX11_mend_33 : decode cX11_mend 33 = .ok (.getfield 12, 3) := by decide +kernel
theorem dX11_mend_36 : decode cX11_mend 36 = .ok (.getfield 79, 3) := by decide +kernel
theorem dX11_mend_39 : decode cX11_mend 39 = .ok (.aload_n 2, 1) := by decide +kernel
theorem dX11_mend_40 : decode cX11_mend 40 = .ok (.aload_n 0, 1) := by decide +kernel
theorem dX11_mend_41 : decode cX11_mend 41 = .ok (.getfield 12, 3) := by decide +kernel
theorem dX11_mend_44 : decode cX11_mend 44 = .ok (.getfield 255, 3) := by decide +kernel
theorem dX11_mend_47 : decode cX11_mend 47 = .ok (.invokevirtual 319, 3) := by decide +kernel
theorem dX11_mend_50 : decode cX11_mend 50 = .ok (.ifCond .ne 5, 3) := by decide +kernel
theorem dX11_mend_55 : decode cX11_mend 55 = .ok (.iload_n 1, 1) := by decide +kernel
theorem dX11_mend_56 : decode cX11_mend 56 = .ok (.iconst (-1), 1) := by decide +kernel
theorem dX11_mend_57 : decode cX11_mend 57 = .ok (.if_icmp .eq 20, 3) := by decide +kernel
theorem dX11_mend_77 : decode cX11_mend 77 = .ok (.iconst 0, 1) := by decide +kernel
theorem dX11_mend_78 : decode cX11_mend 78 = .ok (.istore_n 3, 1) := by decide +kernel
theorem dX11_mend_79 : decode cX11_mend 79 = .ok (.iconst 0, 1) := by decide +kernel
theorem dX11_mend_80 : decode cX11_mend 80 = .ok (.istore 4, 2) := by decide +kernel
theorem dX11_mend_82 : decode cX11_mend 82 = .ok (.iload 4, 2) := by decide +kernel
theorem dX11_mend_84 : decode cX11_mend 84 = .ok (.aload_n 0, 1) := by decide +kernel
theorem dX11_mend_85 : decode cX11_mend 85 = .ok (.getfield 12, 3) := by decide +kernel
theorem dX11_mend_88 : decode cX11_mend 88 = .ok (.getfield 79, 3) := by decide +kernel
theorem dX11_mend_91 : decode cX11_mend 91 = .ok (.getfield 89, 3) := by decide +kernel
theorem dX11_mend_94 : decode cX11_mend 94 = .ok (.if_icmp .ge 30, 3) := by decide +kernel
theorem dX11_mend_124 : decode cX11_mend 124 = .ok (.iload_n 3, 1) := by decide +kernel
theorem dX11_mend_125 : decode cX11_mend 125 = .ok (.ireturn, 1) := by decide +kernel
theorem dX11_need_0 : decode cX11_need 0 = .ok (.aload_n 0, 1) := by decide +kernel
theorem dX11_need_1 : decode cX11_need 1 = .ok (.getfield 12, 3) := by decide +kernel
theorem dX11_need_4 : decode cX11_need 4 = .ok (.getfield 172, 3) := by decide +kernel
theorem dX11_need_7 : decode cX11_need 7 = .ok (.astore_n 3, 1) := by decide +kernel
theorem dX11_need_8 : decode cX11_need 8 = .ok (.iload_n 1, 1) := by decide +kernel
theorem dX11_need_9 : decode cX11_need 9 = .ok (.ifCond .lt 17, 3) := by decide +kernel
theorem dX11_need_12 : decode cX11_need 12 = .ok (.iload_n 1, 1) := by decide +kernel
theorem dX11_need_13 : decode cX11_need 13 = .ok (.aload_n 3, 1) := by decide +kernel
theorem dX11_need_14 : decode cX11_need 14 = .ok (.getfield 181, 3) := by decide +kernel
theorem dX11_need_17 : decode cX11_need 17 = .ok (.if_icmp .ge 9, 3) := by decide +kernel
theorem dX11_need_26 : decode cX11_need 26 = .ok (.bipush (-2), 2) := by decide +kernel
theorem dX11_need_28 : decode cX11_need 28 = .ok (.ireturn, 1) := by decide +kernel
theorem dX11_nights_0 : decode cX11_nights 0 = .ok (.iload_n 1, 1) := by decide +kernel
theorem dX11_nights_1 : decode cX11_nights 1 = .ok (.iconst 1, 1) := by decide +kernel
theorem dX11_nights_2 : decode cX11_nights 2 = .ok (.if_icmp .lt 40, 3) := by decide +kernel
theorem dX11_nights_5 : decode cX11_nights 5 = .ok (.iload_n 1, 1) := by decide +kernel
theorem dX11_nights_6 : decode cX11_nights 6 = .ok (.bipush 60, 2) := by decide +kernel
theorem dX11_nights_8 : decode cX11_nights 8 = .ok (.if_icmp .gt 34, 3) := by decide +kernel
theorem dX11_nights_11 : decode cX11_nights 11 = .ok (.aload_n 0, 1) := by decide +kernel
theorem dX11_nights_12 : decode cX11_nights 12 = .ok (.getfield 12, 3) := by decide +kernel
theorem dX11_nights_15 : decode cX11_nights 15 = .ok (.getfield 79, 3) := by decide +kernel
theorem dX11_nights_18 : decode cX11_nights 18 = .ok (.getfield 89, 3) := by decide +kernel
theorem dX11_nights_21 : decode cX11_nights 21 = .ok (.ifCond .eq 21, 3) := by decide +kernel
theorem dX11_nights_42 : decode cX11_nights 42 = .ok (.iconst (-1), 1) := by decide +kernel
theorem dX11_nights_43 : decode cX11_nights 43 = .ok (.ireturn, 1) := by decide +kernel
theorem dX11_of_0 : decode cX11_of 0 = .ok (.aload_n 0, 1) := by decide +kernel
theorem dX11_of_1 : decode cX11_of 1 = .ok (.getfield 12, 3) := by decide +kernel
theorem dX11_of_4 : decode cX11_of 4 = .ok (.getfield 79, 3) := by decide +kernel
theorem dX11_of_7 : decode cX11_of 7 = .ok (.iload_n 1, 1) := by decide +kernel
theorem dX11_of_8 : decode cX11_of 8 = .ok (.invokevirtual 111, 3) := by decide +kernel
theorem dX11_of_11 : decode cX11_of 11 = .ok (.ifCond .ne 6, 3) := by decide +kernel
theorem dX11_of_14 : decode cX11_of 14 = .ok (.ldc 226, 2) := by decide +kernel
theorem dX11_of_16 : decode cX11_of 16 = .ok (.ireturn, 1) := by decide +kernel
theorem dX11_plan_0 : decode cX11_plan 0 = .ok (.iload_n 2, 1) := by decide +kernel
theorem dX11_plan_1 : decode cX11_plan 1 = .ok (.ifCond .eq 22, 3) := by decide +kernel
theorem dX11_plan_4 : decode cX11_plan 4 = .ok (.iload_n 2, 1) := by decide +kernel
theorem dX11_plan_5 : decode cX11_plan 5 = .ok (.iconst 1, 1) := by decide +kernel
theorem dX11_plan_6 : decode cX11_plan 6 = .ok (.if_icmp .eq 17, 3) := by decide +kernel
theorem dX11_plan_9 : decode cX11_plan 9 = .ok (.iload_n 2, 1) := by decide +kernel
theorem dX11_plan_10 : decode cX11_plan 10 = .ok (.bipush 10, 2) := by decide +kernel
theorem dX11_plan_12 : decode cX11_plan 12 = .ok (.if_icmp .lt 15, 3) := by decide +kernel
theorem dX11_plan_15 : decode cX11_plan 15 = .ok (.iload_n 2, 1) := by decide +kernel
theorem dX11_plan_16 : decode cX11_plan 16 = .ok (.bipush 10, 2) := by decide +kernel
theorem dX11_plan_18 : decode cX11_plan 18 = .ok (.isub, 1) := by decide +kernel
theorem dX11_plan_19 : decode cX11_plan 19 = .ok (.iload_n 1, 1) := by decide +kernel
theorem dX11_plan_20 : decode cX11_plan 20 = .ok (.if_icmp .ge 7, 3) := by decide +kernel
theorem dX11_plan_23 : decode cX11_plan 23 = .ok (.iconst 1, 1) := by decide +kernel
theorem dX11_plan_24 : decode cX11_plan 24 = .ok (.goto 4, 3) := by decide +kernel
theorem dX11_plan_27 : decode cX11_plan 27 = .ok (.iconst 0, 1) := by decide +kernel
theorem dX11_plan_28 : decode cX11_plan 28 = .ok (.istore_n 3, 1) := by decide +kernel
theorem dX11_plan_29 : decode cX11_plan 29 = .ok (.iload_n 1, 1) := by decide +kernel
theorem dX11_plan_30 : decode cX11_plan 30 = .ok (.iconst 1, 1) := by decide +kernel
theorem dX11_plan_31 : decode cX11_plan 31 = .ok (.if_icmp .lt 26, 3) := by decide +kernel
theorem dX11_plan_34 : decode cX11_plan 34 = .ok (.iload_n 1, 1) := by decide +kernel
theorem dX11_plan_35 : decode cX11_plan 35 = .ok (.bipush 10, 2) := by decide +kernel
theorem dX11_plan_37 : decode cX11_plan 37 = .ok (.if_icmp .gt 20, 3) := by decide +kernel
theorem dX11_plan_40 : decode cX11_plan 40 = .ok (.iload_n 3, 1) := by decide +kernel
theorem dX11_plan_41 : decode cX11_plan 41 = .ok (.ifCond .eq 16, 3) := by decide +kernel
theorem dX11_plan_44 : decode cX11_plan 44 = .ok (.aload_n 0, 1) := by decide +kernel
theorem dX11_plan_45 : decode cX11_plan 45 = .ok (.getfield 12, 3) := by decide +kernel
theorem dX11_plan_48 : decode cX11_plan 48 = .ok (.getfield 79, 3) := by decide +kernel
theorem dX11_plan_51 : decode cX11_plan 51 = .ok (.getfield 89, 3) := by decide +kernel
theorem dX11_plan_54 : decode cX11_plan 54 = .ok (.ifCond .ne 5, 3) := by decide +kernel
theorem dX11_plan_57 : decode cX11_plan 57 = .ok (.iconst (-1), 1) := by decide +kernel
theorem dX11_plan_58 : decode cX11_plan 58 = .ok (.ireturn, 1) := by decide +kernel
theorem dX11_rooms_0 : decode cX11_rooms 0 = .ok (.iload_n 1, 1) := by decide +kernel
theorem dX11_rooms_1 : decode cX11_rooms 1 = .ok (.ifCond .eq 28, 3) := by decide +kernel
theorem dX11_rooms_4 : decode cX11_rooms 4 = .ok (.iload_n 1, 1) := by decide +kernel
theorem dX11_rooms_5 : decode cX11_rooms 5 = .ok (.bipush 10, 2) := by decide +kernel
theorem dX11_rooms_7 : decode cX11_rooms 7 = .ok (.if_icmp .lt 20, 3) := by decide +kernel
theorem dX11_rooms_10 : decode cX11_rooms 10 = .ok (.aload_n 0, 1) := by decide +kernel
theorem dX11_rooms_11 : decode cX11_rooms 11 = .ok (.getfield 12, 3) := by decide +kernel
theorem dX11_rooms_14 : decode cX11_rooms 14 = .ok (.getfield 79, 3) := by decide +kernel
theorem dX11_rooms_17 : decode cX11_rooms 17 = .ok (.iload_n 1, 1) := by decide +kernel
theorem dX11_rooms_18 : decode cX11_rooms 18 = .ok (.bipush 10, 2) := by decide +kernel
theorem dX11_rooms_20 : decode cX11_rooms 20 = .ok (.isub, 1) := by decide +kernel
theorem dX11_rooms_21 : decode cX11_rooms 21 = .ok (.invokevirtual 111, 3) := by decide +kernel
theorem dX11_rooms_24 : decode cX11_rooms 24 = .ok (.ifCond .ne 5, 3) := by decide +kernel
theorem dX11_rooms_27 : decode cX11_rooms 27 = .ok (.iconst (-1), 1) := by decide +kernel
theorem dX11_rooms_28 : decode cX11_rooms 28 = .ok (.ireturn, 1) := by decide +kernel
theorem dX11_rooms_29 : decode cX11_rooms 29 = .ok (.aload_n 0, 1) := by decide +kernel
theorem dX11_rooms_30 : decode cX11_rooms 30 = .ok (.getfield 12, 3) := by decide +kernel
theorem dX11_rooms_33 : decode cX11_rooms 33 = .ok (.getfield 79, 3) := by decide +kernel
theorem dX11_rooms_36 : decode cX11_rooms 36 = .ok (.invokevirtual 326, 3) := by decide +kernel
theorem dX11_rooms_39 : decode cX11_rooms 39 = .ok (.istore_n 2, 1) := by decide +kernel
theorem dX11_rooms_40 : decode cX11_rooms 40 = .ok (.iload_n 1, 1) := by decide +kernel
theorem dX11_rooms_41 : decode cX11_rooms 41 = .ok (.ifCond .ne 7, 3) := by decide +kernel
theorem dX11_rooms_44 : decode cX11_rooms 44 = .ok (.iload_n 2, 1) := by decide +kernel
theorem dX11_rooms_45 : decode cX11_rooms 45 = .ok (.goto 18, 3) := by decide +kernel
theorem dX11_rooms_63 : decode cX11_rooms 63 = .ok (.ireturn, 1) := by decide +kernel
theorem dX11_run_0 : decode cX11_run 0 = .ok (.iload_n 1, 1) := by decide +kernel
theorem dX11_run_1 : decode cX11_run 1 = .ok (.iconst 1, 1) := by decide +kernel
theorem dX11_run_2 : decode cX11_run 2 = .ok (.if_icmp .lt 31, 3) := by decide +kernel
theorem dX11_run_5 : decode cX11_run 5 = .ok (.iload_n 1, 1) := by decide +kernel
theorem dX11_run_6 : decode cX11_run 6 = .ok (.bipush 99, 2) := by decide +kernel
theorem dX11_run_8 : decode cX11_run 8 = .ok (.if_icmp .gt 25, 3) := by decide +kernel
theorem dX11_run_11 : decode cX11_run 11 = .ok (.iload_n 2, 1) := by decide +kernel
theorem dX11_run_12 : decode cX11_run 12 = .ok (.ifCond .lt 21, 3) := by decide +kernel
theorem dX11_run_15 : decode cX11_run 15 = .ok (.iload_n 2, 1) := by decide +kernel
theorem dX11_run_16 : decode cX11_run 16 = .ok (.iconst 3, 1) := by decide +kernel
theorem dX11_run_17 : decode cX11_run 17 = .ok (.if_icmp .gt 16, 3) := by decide +kernel
theorem dX11_run_20 : decode cX11_run 20 = .ok (.aload_n 0, 1) := by decide +kernel
theorem dX11_run_21 : decode cX11_run 21 = .ok (.getfield 12, 3) := by decide +kernel
theorem dX11_run_24 : decode cX11_run 24 = .ok (.getfield 79, 3) := by decide +kernel
theorem dX11_run_27 : decode cX11_run 27 = .ok (.getfield 89, 3) := by decide +kernel
theorem dX11_run_30 : decode cX11_run 30 = .ok (.ifCond .ne 5, 3) := by decide +kernel
theorem dX11_run_33 : decode cX11_run 33 = .ok (.iconst (-1), 1) := by decide +kernel
theorem dX11_run_34 : decode cX11_run 34 = .ok (.ireturn, 1) := by decide +kernel
theorem dX11_sale_0 : decode cX11_sale 0 = .ok (.iload_n 1, 1) := by decide +kernel
theorem dX11_sale_1 : decode cX11_sale 1 = .ok (.ifCond .eq 10, 3) := by decide +kernel
theorem dX11_sale_4 : decode cX11_sale 4 = .ok (.iload_n 1, 1) := by decide +kernel
theorem dX11_sale_5 : decode cX11_sale 5 = .ok (.iconst 1, 1) := by decide +kernel
theorem dX11_sale_6 : decode cX11_sale 6 = .ok (.if_icmp .eq 5, 3) := by decide +kernel
theorem dX11_sale_9 : decode cX11_sale 9 = .ok (.iconst (-1), 1) := by decide +kernel
theorem dX11_sale_10 : decode cX11_sale 10 = .ok (.ireturn, 1) := by decide +kernel
theorem dX11_sale_11 : decode cX11_sale 11 = .ok (.aload_n 0, 1) := by decide +kernel
theorem dX11_sale_12 : decode cX11_sale 12 = .ok (.getfield 12, 3) := by decide +kernel
theorem dX11_sale_15 : decode cX11_sale 15 = .ok (.getfield 79, 3) := by decide +kernel
theorem dX11_sale_18 : decode cX11_sale 18 = .ok (.iconst (-1), 1) := by decide +kernel
theorem dX11_sale_19 : decode cX11_sale 19 = .ok (.invokevirtual 332, 3) := by decide +kernel
theorem dX11_sale_22 : decode cX11_sale 22 = .ok (.istore_n 2, 1) := by decide +kernel
theorem dX11_sale_23 : decode cX11_sale 23 = .ok (.iload_n 2, 1) := by decide +kernel
theorem dX11_sale_24 : decode cX11_sale 24 = .ok (.iconst (-1), 1) := by decide +kernel
theorem dX11_sale_25 : decode cX11_sale 25 = .ok (.if_icmp .eq 7, 3) := by decide +kernel
theorem dX11_sale_32 : decode cX11_sale 32 = .ok (.iload_n 2, 1) := by decide +kernel
theorem dX11_sale_33 : decode cX11_sale 33 = .ok (.ireturn, 1) := by decide +kernel
theorem dX11_state_0 : decode cX11_state 0 = .ok (.aload_n 0, 1) := by decide +kernel
theorem dX11_state_1 : decode cX11_state 1 = .ok (.getfield 12, 3) := by decide +kernel
theorem dX11_state_4 : decode cX11_state 4 = .ok (.getfield 69, 3) := by decide +kernel
theorem dX11_state_7 : decode cX11_state 7 = .ok (.getfield 72, 3) := by decide +kernel
theorem dX11_state_10 : decode cX11_state 10 = .ok (.istore_n 2, 1) := by decide +kernel
theorem dX11_state_11 : decode cX11_state 11 = .ok (.aload_n 0, 1) := by decide +kernel
theorem dX11_state_12 : decode cX11_state 12 = .ok (.getfield 12, 3) := by decide +kernel
theorem dX11_state_15 : decode cX11_state 15 = .ok (.getfield 69, 3) := by decide +kernel
theorem dX11_state_18 : decode cX11_state 18 = .ok (.iload_n 1, 1) := by decide +kernel
theorem dX11_state_19 : decode cX11_state 19 = .ok (.putfield 72, 3) := by decide +kernel
theorem dX11_state_22 : decode cX11_state 22 = .ok (.aload_n 0, 1) := by decide +kernel
theorem dX11_state_23 : decode cX11_state 23 = .ok (.invokevirtual 76, 3) := by decide +kernel
theorem dX11_state_26 : decode cX11_state 26 = .ok (.iload_n 2, 1) := by decide +kernel
theorem dX11_state_27 : decode cX11_state 27 = .ok (.ireturn, 1) := by decide +kernel
theorem dX11_sure_0 : decode cX11_sure 0 = .ok (.aload_n 0, 1) := by decide +kernel
theorem dX11_sure_1 : decode cX11_sure 1 = .ok (.getfield 12, 3) := by decide +kernel
theorem dX11_sure_4 : decode cX11_sure 4 = .ok (.getfield 79, 3) := by decide +kernel
theorem dX11_sure_7 : decode cX11_sure 7 = .ok (.iload_n 1, 1) := by decide +kernel
theorem dX11_sure_8 : decode cX11_sure 8 = .ok (.invokevirtual 111, 3) := by decide +kernel
theorem dX11_sure_11 : decode cX11_sure 11 = .ok (.ifCond .eq 28, 3) := by decide +kernel
theorem dX11_sure_39 : decode cX11_sure 39 = .ok (.iconst (-1), 1) := by decide +kernel
theorem dX11_sure_40 : decode cX11_sure 40 = .ok (.ireturn, 1) := by decide +kernel
theorem dX11_takeDraft_0 : decode cX11_takeDraft 0 = .ok (.iload_n 1, 1) := by decide +kernel
theorem dX11_takeDraft_1 : decode cX11_takeDraft 1 = .ok (.tableswitch 178 0 4 #[35, 57, 79, 105, 141], 35) := by decide +kernel
theorem dX11_takeDraft_36 : decode cX11_takeDraft 36 = .ok (.aload_n 0, 1) := by decide +kernel
theorem dX11_takeDraft_37 : decode cX11_takeDraft 37 = .ok (.getfield 12, 3) := by decide +kernel
theorem dX11_takeDraft_40 : decode cX11_takeDraft 40 = .ok (.getfield 152, 3) := by decide +kernel
theorem dX11_takeDraft_43 : decode cX11_takeDraft 43 = .ok (.aload_n 0, 1) := by decide +kernel
theorem dX11_takeDraft_44 : decode cX11_takeDraft 44 = .ok (.getfield 26, 3) := by decide +kernel
theorem dX11_takeDraft_47 : decode cX11_takeDraft 47 = .ok (.invokevirtual 155, 3) := by decide +kernel
theorem dX11_takeDraft_50 : decode cX11_takeDraft 50 = .ok (.aload_n 0, 1) := by decide +kernel
theorem dX11_takeDraft_51 : decode cX11_takeDraft 51 = .ok (.getfield 26, 3) := by decide +kernel
theorem dX11_takeDraft_54 : decode cX11_takeDraft 54 = .ok (.getfield 159, 3) := by decide +kernel
theorem dX11_takeDraft_57 : decode cX11_takeDraft 57 = .ok (.ireturn, 1) := by decide +kernel
theorem dX11_takeDraft_58 : decode cX11_takeDraft 58 = .ok (.aload_n 0, 1) := by decide +kernel
theorem dX11_takeDraft_59 : decode cX11_takeDraft 59 = .ok (.getfield 12, 3) := by decide +kernel
theorem dX11_takeDraft_62 : decode cX11_takeDraft 62 = .ok (.getfield 162, 3) := by decide +kernel
theorem dX11_takeDraft_65 : decode cX11_takeDraft 65 = .ok (.aload_n 0, 1) := by decide +kernel
theorem dX11_takeDraft_66 : decode cX11_takeDraft 66 = .ok (.getfield 26, 3) := by decide +kernel
theorem dX11_takeDraft_69 : decode cX11_takeDraft 69 = .ok (.invokevirtual 155, 3) := by decide +kernel
theorem dX11_takeDraft_72 : decode cX11_takeDraft 72 = .ok (.aload_n 0, 1) := by decide +kernel
theorem dX11_takeDraft_73 : decode cX11_takeDraft 73 = .ok (.getfield 26, 3) := by decide +kernel
theorem dX11_takeDraft_76 : decode cX11_takeDraft 76 = .ok (.getfield 159, 3) := by decide +kernel
theorem dX11_takeDraft_79 : decode cX11_takeDraft 79 = .ok (.ireturn, 1) := by decide +kernel
theorem dX11_takeDraft_80 : decode cX11_takeDraft 80 = .ok (.aload_n 0, 1) := by decide +kernel
theorem dX11_takeDraft_81 : decode cX11_takeDraft 81 = .ok (.getfield 12, 3) := by decide +kernel
theorem dX11_takeDraft_84 : decode cX11_takeDraft 84 = .ok (.getfield 165, 3) := by decide +kernel
theorem dX11_takeDraft_87 : decode cX11_takeDraft 87 = .ok (.aload_n 0, 1) := by decide +kernel
theorem dX11_takeDraft_88 : decode cX11_takeDraft 88 = .ok (.getfield 33, 3) := by decide +kernel
theorem dX11_takeDraft_91 : decode cX11_takeDraft 91 = .ok (.invokevirtual 168, 3) := by decide +kernel
theorem dX11_takeDraft_94 : decode cX11_takeDraft 94 = .ok (.aload_n 0, 1) := by decide +kernel
theorem dX11_takeDraft_95 : decode cX11_takeDraft 95 = .ok (.invokevirtual 76, 3) := by decide +kernel
theorem dX11_takeDraft_98 : decode cX11_takeDraft 98 = .ok (.aload_n 0, 1) := by decide +kernel
theorem dX11_takeDraft_99 : decode cX11_takeDraft 99 = .ok (.getfield 33, 3) := by decide +kernel
theorem dX11_takeDraft_102 : decode cX11_takeDraft 102 = .ok (.getfield 171, 3) := by decide +kernel
theorem dX11_takeDraft_105 : decode cX11_takeDraft 105 = .ok (.ireturn, 1) := by decide +kernel
theorem dX11_takeDraft_106 : decode cX11_takeDraft 106 = .ok (.aload_n 0, 1) := by decide +kernel
theorem dX11_takeDraft_107 : decode cX11_takeDraft 107 = .ok (.getfield 12, 3) := by decide +kernel
theorem dX11_takeDraft_110 : decode cX11_takeDraft 110 = .ok (.getfield 172, 3) := by decide +kernel
theorem dX11_takeDraft_113 : decode cX11_takeDraft 113 = .ok (.aload_n 0, 1) := by decide +kernel
theorem dX11_takeDraft_114 : decode cX11_takeDraft 114 = .ok (.getfield 40, 3) := by decide +kernel
theorem dX11_takeDraft_117 : decode cX11_takeDraft 117 = .ok (.invokevirtual 175, 3) := by decide +kernel
theorem dX11_takeDraft_120 : decode cX11_takeDraft 120 = .ok (.aload_n 0, 1) := by decide +kernel
theorem dX11_takeDraft_121 : decode cX11_takeDraft 121 = .ok (.getfield 12, 3) := by decide +kernel
theorem dX11_takeDraft_124 : decode cX11_takeDraft 124 = .ok (.getfield 69, 3) := by decide +kernel
theorem dX11_takeDraft_127 : decode cX11_takeDraft 127 = .ok (.invokevirtual 178, 3) := by decide +kernel
theorem dX11_takeDraft_130 : decode cX11_takeDraft 130 = .ok (.aload_n 0, 1) := by decide +kernel
theorem dX11_takeDraft_131 : decode cX11_takeDraft 131 = .ok (.invokevirtual 76, 3) := by decide +kernel
theorem dX11_takeDraft_134 : decode cX11_takeDraft 134 = .ok (.aload_n 0, 1) := by decide +kernel
theorem dX11_takeDraft_135 : decode cX11_takeDraft 135 = .ok (.getfield 40, 3) := by decide +kernel
theorem dX11_takeDraft_138 : decode cX11_takeDraft 138 = .ok (.getfield 181, 3) := by decide +kernel
theorem dX11_takeDraft_141 : decode cX11_takeDraft 141 = .ok (.ireturn, 1) := by decide +kernel
theorem dX11_takeDraft_142 : decode cX11_takeDraft 142 = .ok (.aload_n 0, 1) := by decide +kernel
theorem dX11_takeDraft_143 : decode cX11_takeDraft 143 = .ok (.getfield 12, 3) := by decide +kernel
theorem dX11_takeDraft_146 : decode cX11_takeDraft 146 = .ok (.getfield 182, 3) := by decide +kernel
theorem dX11_takeDraft_149 : decode cX11_takeDraft 149 = .ok (.aload_n 0, 1) := by decide +kernel
theorem dX11_takeDraft_150 : decode cX11_takeDraft 150 = .ok (.getfield 47, 3) := by decide +kernel
theorem dX11_takeDraft_153 : decode cX11_takeDraft 153 = .ok (.invokevirtual 185, 3) := by decide +kernel
theorem dX11_takeDraft_156 : decode cX11_takeDraft 156 = .ok (.aload_n 0, 1) := by decide +kernel
theorem dX11_takeDraft_157 : decode cX11_takeDraft 157 = .ok (.getfield 12, 3) := by decide +kernel
theorem dX11_takeDraft_160 : decode cX11_takeDraft 160 = .ok (.getfield 69, 3) := by decide +kernel
theorem dX11_takeDraft_163 : decode cX11_takeDraft 163 = .ok (.iconst 0, 1) := by decide +kernel
theorem dX11_takeDraft_164 : decode cX11_takeDraft 164 = .ok (.putfield 188, 3) := by decide +kernel
theorem dX11_takeDraft_167 : decode cX11_takeDraft 167 = .ok (.aload_n 0, 1) := by decide +kernel
theorem dX11_takeDraft_168 : decode cX11_takeDraft 168 = .ok (.invokevirtual 76, 3) := by decide +kernel
theorem dX11_takeDraft_171 : decode cX11_takeDraft 171 = .ok (.aload_n 0, 1) := by decide +kernel
theorem dX11_takeDraft_172 : decode cX11_takeDraft 172 = .ok (.getfield 47, 3) := by decide +kernel
theorem dX11_takeDraft_175 : decode cX11_takeDraft 175 = .ok (.getfield 191, 3) := by decide +kernel
theorem dX11_takeDraft_178 : decode cX11_takeDraft 178 = .ok (.ireturn, 1) := by decide +kernel
theorem dX11_takeDraft_179 : decode cX11_takeDraft 179 = .ok (.iconst (-1), 1) := by decide +kernel
theorem dX11_takeDraft_180 : decode cX11_takeDraft 180 = .ok (.ireturn, 1) := by decide +kernel
theorem dX11_text_0 : decode cX11_text 0 = .ok (.aload_n 0, 1) := by decide +kernel
theorem dX11_text_1 : decode cX11_text 1 = .ok (.getfield 12, 3) := by decide +kernel
theorem dX11_text_4 : decode cX11_text 4 = .ok (.getfield 79, 3) := by decide +kernel
theorem dX11_text_7 : decode cX11_text 7 = .ok (.getfield 89, 3) := by decide +kernel
theorem dX11_text_10 : decode cX11_text 10 = .ok (.istore_n 2, 1) := by decide +kernel
theorem dX11_text_11 : decode cX11_text 11 = .ok (.aload_n 0, 1) := by decide +kernel
theorem dX11_text_12 : decode cX11_text 12 = .ok (.getfield 19, 3) := by decide +kernel
theorem dX11_text_15 : decode cX11_text 15 = .ok (.iload_n 1, 1) := by decide +kernel
theorem dX11_text_16 : decode cX11_text 16 = .ok (.invokevirtual 133, 3) := by decide +kernel
theorem dX11_text_19 : decode cX11_text 19 = .ok (.iload_n 1, 1) := by decide +kernel
theorem dX11_text_20 : decode cX11_text 20 = .ok (.tableswitch 95 0 4 #[36, 36, 50, 65, 80], 36) := by decide +kernel
theorem dX11_text_56 : decode cX11_text 56 = .ok (.aload_n 0, 1) := by decide +kernel
theorem dX11_text_57 : decode cX11_text 57 = .ok (.getfield 26, 3) := by decide +kernel
theorem dX11_text_60 : decode cX11_text 60 = .ok (.aload_n 0, 1) := by decide +kernel
theorem dX11_text_61 : decode cX11_text 61 = .ok (.getfield 19, 3) := by decide +kernel
theorem dX11_text_64 : decode cX11_text 64 = .ok (.invokevirtual 136, 3) := by decide +kernel
theorem dX11_text_67 : decode cX11_text 67 = .ok (.goto 48, 3) := by decide +kernel
theorem dX11_text_70 : decode cX11_text 70 = .ok (.aload_n 0, 1) := by decide +kernel
theorem dX11_text_71 : decode cX11_text 71 = .ok (.getfield 33, 3) := by decide +kernel
theorem dX11_text_74 : decode cX11_text 74 = .ok (.aload_n 0, 1) := by decide +kernel
theorem dX11_text_75 : decode cX11_text 75 = .ok (.getfield 19, 3) := by decide +kernel
theorem dX11_text_78 : decode cX11_text 78 = .ok (.iload_n 2, 1) := by decide +kernel
theorem dX11_text_79 : decode cX11_text 79 = .ok (.invokevirtual 140, 3) := by decide +kernel
theorem dX11_text_82 : decode cX11_text 82 = .ok (.goto 33, 3) := by decide +kernel
theorem dX11_text_85 : decode cX11_text 85 = .ok (.aload_n 0, 1) := by decide +kernel
theorem dX11_text_86 : decode cX11_text 86 = .ok (.getfield 40, 3) := by decide +kernel
theorem dX11_text_89 : decode cX11_text 89 = .ok (.aload_n 0, 1) := by decide +kernel
theorem dX11_text_90 : decode cX11_text 90 = .ok (.getfield 19, 3) := by decide +kernel
theorem dX11_text_93 : decode cX11_text 93 = .ok (.iload_n 2, 1) := by decide +kernel
theorem dX11_text_94 : decode cX11_text 94 = .ok (.invokevirtual 143, 3) := by decide +kernel
theorem dX11_text_97 : decode cX11_text 97 = .ok (.goto 18, 3) := by decide +kernel
theorem dX11_text_100 : decode cX11_text 100 = .ok (.aload_n 0, 1) := by decide +kernel
theorem dX11_text_101 : decode cX11_text 101 = .ok (.getfield 47, 3) := by decide +kernel
theorem dX11_text_104 : decode cX11_text 104 = .ok (.aload_n 0, 1) := by decide +kernel
theorem dX11_text_105 : decode cX11_text 105 = .ok (.getfield 19, 3) := by decide +kernel
theorem dX11_text_108 : decode cX11_text 108 = .ok (.iload_n 2, 1) := by decide +kernel
theorem dX11_text_109 : decode cX11_text 109 = .ok (.invokevirtual 144, 3) := by decide +kernel
theorem dX11_text_112 : decode cX11_text 112 = .ok (.goto 3, 3) := by decide +kernel
theorem dX11_text_115 : decode cX11_text 115 = .ok (.aload_n 0, 1) := by decide +kernel
theorem dX11_text_116 : decode cX11_text 116 = .ok (.getfield 19, 3) := by decide +kernel
theorem dX11_text_119 : decode cX11_text 119 = .ok (.iconst 0, 1) := by decide +kernel
theorem dX11_text_120 : decode cX11_text 120 = .ok (.putfield 126, 3) := by decide +kernel
theorem dX11_text_123 : decode cX11_text 123 = .ok (.aload_n 0, 1) := by decide +kernel
theorem dX11_text_124 : decode cX11_text 124 = .ok (.getfield 19, 3) := by decide +kernel
theorem dX11_text_127 : decode cX11_text 127 = .ok (.getfield 145, 3) := by decide +kernel
theorem dX11_text_130 : decode cX11_text 130 = .ok (.ifCond .ne 11, 3) := by decide +kernel
theorem dX11_text_133 : decode cX11_text 133 = .ok (.aload_n 0, 1) := by decide +kernel
theorem dX11_text_134 : decode cX11_text 134 = .ok (.iload_n 1, 1) := by decide +kernel
theorem dX11_text_135 : decode cX11_text 135 = .ok (.invokevirtual 148, 3) := by decide +kernel
theorem dX11_text_138 : decode cX11_text 138 = .ok (.goto 4, 3) := by decide +kernel
theorem dX11_text_142 : decode cX11_text 142 = .ok (.ireturn, 1) := by decide +kernel
theorem dX11_undo_0 : decode cX11_undo 0 = .ok (.aload_n 0, 1) := by decide +kernel
theorem dX11_undo_1 : decode cX11_undo 1 = .ok (.getfield 211, 3) := by decide +kernel
theorem dX11_undo_4 : decode cX11_undo 4 = .ok (.ifCond .gt 5, 3) := by decide +kernel
theorem dX11_undo_7 : decode cX11_undo 7 = .ok (.iconst 0, 1) := by decide +kernel
theorem dX11_undo_8 : decode cX11_undo 8 = .ok (.ireturn, 1) := by decide +kernel
theorem dX11_ways_0 : decode cX11_ways 0 = .ok (.iload_n 1, 1) := by decide +kernel
theorem dX11_ways_1 : decode cX11_ways 1 = .ok (.iconst 1, 1) := by decide +kernel
theorem dX11_ways_2 : decode cX11_ways 2 = .ok (.if_icmp .lt 9, 3) := by decide +kernel
theorem dX11_ways_5 : decode cX11_ways 5 = .ok (.iload_n 1, 1) := by decide +kernel
theorem dX11_ways_6 : decode cX11_ways 6 = .ok (.bipush 10, 2) := by decide +kernel
theorem dX11_ways_8 : decode cX11_ways 8 = .ok (.if_icmp .le 7, 3) := by decide +kernel
theorem dX11_ways_11 : decode cX11_ways 11 = .ok (.ldc2_w 356, 3) := by decide +kernel
theorem dX11_ways_14 : decode cX11_ways 14 = .ok (.lreturn, 1) := by decide +kernel
theorem dX11_ways_15 : decode cX11_ways 15 = .ok (.aload_n 0, 1) := by decide +kernel
theorem dX11_ways_16 : decode cX11_ways 16 = .ok (.getfield 61, 3) := by decide +kernel
theorem dX11_ways_19 : decode cX11_ways 19 = .ok (.aload_n 0, 1) := by decide +kernel
theorem dX11_ways_20 : decode cX11_ways 20 = .ok (.getfield 12, 3) := by decide +kernel
theorem dX11_ways_23 : decode cX11_ways 23 = .ok (.iload_n 1, 1) := by decide +kernel
theorem dX11_ways_24 : decode cX11_ways 24 = .ok (.invokevirtual 358, 3) := by decide +kernel
theorem dX11_ways_27 : decode cX11_ways 27 = .ok (.lreturn, 1) := by decide +kernel
theorem dX2_init_0 : decode cX2_init 0 = .ok (.aload_n 0, 1) := by decide +kernel
theorem dX2_init_1 : decode cX2_init 1 = .ok (.invokespecial 3, 3) := by decide +kernel
theorem dX2_init_4 : decode cX2_init 4 = .ok (.aload_n 0, 1) := by decide +kernel
theorem dX2_init_5 : decode cX2_init 5 = .ok (.sipush 400, 3) := by decide +kernel
theorem dX2_init_8 : decode cX2_init 8 = .ok (.newarray .int, 2) := by decide +kernel
theorem dX2_init_10 : decode cX2_init 10 = .ok (.putfield 9, 3) := by decide +kernel
theorem dX2_init_13 : decode cX2_init 13 = .ok (.aload_n 0, 1) := by decide +kernel
theorem dX2_init_14 : decode cX2_init 14 = .ok (.bipush 33, 2) := by decide +kernel
theorem dX2_init_16 : decode cX2_init 16 = .ok (.newarray .int, 2) := by decide +kernel
theorem dX2_init_18 : decode cX2_init 18 = .ok (.putfield 15, 3) := by decide +kernel
theorem dX2_init_21 : decode cX2_init 21 = .ok (.aload_n 0, 1) := by decide +kernel
theorem dX2_init_22 : decode cX2_init 22 = .ok (.bipush 64, 2) := by decide +kernel
theorem dX2_init_24 : decode cX2_init 24 = .ok (.newarray .int, 2) := by decide +kernel
theorem dX2_init_26 : decode cX2_init 26 = .ok (.putfield 18, 3) := by decide +kernel
theorem dX2_init_29 : decode cX2_init 29 = .ok (.aload_n 0, 1) := by decide +kernel
theorem dX2_init_30 : decode cX2_init 30 = .ok (.bipush 64, 2) := by decide +kernel
theorem dX2_init_32 : decode cX2_init 32 = .ok (.newarray .int, 2) := by decide +kernel
theorem dX2_init_34 : decode cX2_init 34 = .ok (.putfield 21, 3) := by decide +kernel
theorem dX2_init_37 : decode cX2_init 37 = .ok (.return_, 1) := by decide +kernel
theorem dX2_read_0 : decode cX2_read 0 = .ok (.aload_n 0, 1) := by decide +kernel
theorem dX2_read_1 : decode cX2_read 1 = .ok (.iconst 0, 1) := by decide +kernel
theorem dX2_read_2 : decode cX2_read 2 = .ok (.putfield 34, 3) := by decide +kernel
theorem dX2_read_5 : decode cX2_read 5 = .ok (.aload_n 0, 1) := by decide +kernel
theorem dX2_read_6 : decode cX2_read 6 = .ok (.iconst 0, 1) := by decide +kernel
theorem dX2_read_7 : decode cX2_read 7 = .ok (.putfield 30, 3) := by decide +kernel
theorem dX2_read_10 : decode cX2_read 10 = .ok (.iconst 0, 1) := by decide +kernel
theorem dX2_read_11 : decode cX2_read 11 = .ok (.istore_n 2, 1) := by decide +kernel
theorem dX2_read_12 : decode cX2_read 12 = .ok (.iload_n 2, 1) := by decide +kernel
theorem dX2_read_13 : decode cX2_read 13 = .ok (.sipush 400, 3) := by decide +kernel
theorem dX2_read_16 : decode cX2_read 16 = .ok (.if_icmp .gt 133, 3) := by decide +kernel
theorem dX2_read_19 : decode cX2_read 19 = .ok (.aload_n 1, 1) := by decide +kernel
theorem dX2_read_20 : decode cX2_read 20 = .ok (.invokevirtual 37, 3) := by decide +kernel
theorem dX2_read_23 : decode cX2_read 23 = .ok (.ifCond .eq 126, 3) := by decide +kernel
theorem dX2_read_149 : decode cX2_read 149 = .ok (.return_, 1) := by decide +kernel
theorem dX2_take_0 : decode cX2_take 0 = .ok (.aload_n 1, 1) := by decide +kernel
theorem dX2_take_1 : decode cX2_take 1 = .ok (.getfield 9, 3) := by decide +kernel
theorem dX2_take_4 : decode cX2_take 4 = .ok (.iconst 0, 1) := by decide +kernel
theorem dX2_take_5 : decode cX2_take 5 = .ok (.aload_n 0, 1) := by decide +kernel
theorem dX2_take_6 : decode cX2_take 6 = .ok (.getfield 9, 3) := by decide +kernel
theorem dX2_take_9 : decode cX2_take 9 = .ok (.iconst 0, 1) := by decide +kernel
theorem dX2_take_10 : decode cX2_take 10 = .ok (.sipush 400, 3) := by decide +kernel
theorem dX2_take_13 : decode cX2_take 13 = .ok (.invokestatic 24, 3) := by decide +kernel
theorem dX2_take_16 : decode cX2_take 16 = .ok (.aload_n 1, 1) := by decide +kernel
theorem dX2_take_17 : decode cX2_take 17 = .ok (.getfield 15, 3) := by decide +kernel
theorem dX2_take_20 : decode cX2_take 20 = .ok (.iconst 0, 1) := by decide +kernel
theorem dX2_take_21 : decode cX2_take 21 = .ok (.aload_n 0, 1) := by decide +kernel
theorem dX2_take_22 : decode cX2_take 22 = .ok (.getfield 15, 3) := by decide +kernel
theorem dX2_take_25 : decode cX2_take 25 = .ok (.iconst 0, 1) := by decide +kernel
theorem dX2_take_26 : decode cX2_take 26 = .ok (.bipush 33, 2) := by decide +kernel
theorem dX2_take_28 : decode cX2_take 28 = .ok (.invokestatic 24, 3) := by decide +kernel
theorem dX2_take_31 : decode cX2_take 31 = .ok (.aload_n 0, 1) := by decide +kernel
theorem dX2_take_32 : decode cX2_take 32 = .ok (.aload_n 1, 1) := by decide +kernel
theorem dX2_take_33 : decode cX2_take 33 = .ok (.getfield 30, 3) := by decide +kernel
theorem dX2_take_36 : decode cX2_take 36 = .ok (.putfield 30, 3) := by decide +kernel
theorem dX2_take_39 : decode cX2_take 39 = .ok (.return_, 1) := by decide +kernel
theorem dX3_init_0 : decode cX3_init 0 = .ok (.aload_n 0, 1) := by decide +kernel
theorem dX3_init_1 : decode cX3_init 1 = .ok (.invokespecial 3, 3) := by decide +kernel
theorem dX3_init_4 : decode cX3_init 4 = .ok (.aload_n 0, 1) := by decide +kernel
theorem dX3_init_5 : decode cX3_init 5 = .ok (.bipush 10, 2) := by decide +kernel
theorem dX3_init_7 : decode cX3_init 7 = .ok (.newarray .int, 2) := by decide +kernel
theorem dX3_init_9 : decode cX3_init 9 = .ok (.putfield 9, 3) := by decide +kernel
theorem dX3_init_12 : decode cX3_init 12 = .ok (.aload_n 0, 1) := by decide +kernel
theorem dX3_init_13 : decode cX3_init 13 = .ok (.bipush 10, 2) := by decide +kernel
theorem dX3_init_15 : decode cX3_init 15 = .ok (.newarray .int, 2) := by decide +kernel
theorem dX3_init_17 : decode cX3_init 17 = .ok (.putfield 15, 3) := by decide +kernel
theorem dX3_init_20 : decode cX3_init 20 = .ok (.aload_n 0, 1) := by decide +kernel
theorem dX3_init_21 : decode cX3_init 21 = .ok (.bipush 10, 2) := by decide +kernel
theorem dX3_init_23 : decode cX3_init 23 = .ok (.newarray .int, 2) := by decide +kernel
theorem dX3_init_25 : decode cX3_init 25 = .ok (.putfield 18, 3) := by decide +kernel
theorem dX3_init_28 : decode cX3_init 28 = .ok (.aload_n 0, 1) := by decide +kernel
theorem dX3_init_29 : decode cX3_init 29 = .ok (.bipush 10, 2) := by decide +kernel
theorem dX3_init_31 : decode cX3_init 31 = .ok (.newarray .int, 2) := by decide +kernel
theorem dX3_init_33 : decode cX3_init 33 = .ok (.putfield 21, 3) := by decide +kernel
theorem dX3_init_36 : decode cX3_init 36 = .ok (.aload_n 0, 1) := by decide +kernel
theorem dX3_init_37 : decode cX3_init 37 = .ok (.bipush 10, 2) := by decide +kernel
theorem dX3_init_39 : decode cX3_init 39 = .ok (.newarray .int, 2) := by decide +kernel
theorem dX3_init_41 : decode cX3_init 41 = .ok (.putfield 24, 3) := by decide +kernel
theorem dX3_init_44 : decode cX3_init 44 = .ok (.return_, 1) := by decide +kernel
theorem dX3_read_0 : decode cX3_read 0 = .ok (.aload_n 0, 1) := by decide +kernel
theorem dX3_read_1 : decode cX3_read 1 = .ok (.iconst 0, 1) := by decide +kernel
theorem dX3_read_2 : decode cX3_read 2 = .ok (.putfield 33, 3) := by decide +kernel
theorem dX3_read_5 : decode cX3_read 5 = .ok (.iconst 0, 1) := by decide +kernel
theorem dX3_read_6 : decode cX3_read 6 = .ok (.istore_n 3, 1) := by decide +kernel
theorem dX3_read_7 : decode cX3_read 7 = .ok (.iload_n 3, 1) := by decide +kernel
theorem dX3_read_8 : decode cX3_read 8 = .ok (.sipush 400, 3) := by decide +kernel
theorem dX3_read_11 : decode cX3_read 11 = .ok (.if_icmp .gt 46, 3) := by decide +kernel
theorem dX3_read_14 : decode cX3_read 14 = .ok (.aload_n 1, 1) := by decide +kernel
theorem dX3_read_15 : decode cX3_read 15 = .ok (.invokevirtual 37, 3) := by decide +kernel
theorem dX3_read_18 : decode cX3_read 18 = .ok (.ifCond .eq 39, 3) := by decide +kernel
theorem dX3_read_57 : decode cX3_read 57 = .ok (.return_, 1) := by decide +kernel
theorem dX3_take_0 : decode cX3_take 0 = .ok (.aload_n 1, 1) := by decide +kernel
theorem dX3_take_1 : decode cX3_take 1 = .ok (.getfield 9, 3) := by decide +kernel
theorem dX3_take_4 : decode cX3_take 4 = .ok (.iconst 0, 1) := by decide +kernel
theorem dX3_take_5 : decode cX3_take 5 = .ok (.aload_n 0, 1) := by decide +kernel
theorem dX3_take_6 : decode cX3_take 6 = .ok (.getfield 9, 3) := by decide +kernel
theorem dX3_take_9 : decode cX3_take 9 = .ok (.iconst 0, 1) := by decide +kernel
theorem dX3_take_10 : decode cX3_take 10 = .ok (.bipush 10, 2) := by decide +kernel
theorem dX3_take_12 : decode cX3_take 12 = .ok (.invokestatic 27, 3) := by decide +kernel
theorem dX3_take_15 : decode cX3_take 15 = .ok (.aload_n 1, 1) := by decide +kernel
theorem dX3_take_16 : decode cX3_take 16 = .ok (.getfield 15, 3) := by decide +kernel
theorem dX3_take_19 : decode cX3_take 19 = .ok (.iconst 0, 1) := by decide +kernel
theorem dX3_take_20 : decode cX3_take 20 = .ok (.aload_n 0, 1) := by decide +kernel
theorem dX3_take_21 : decode cX3_take 21 = .ok (.getfield 15, 3) := by decide +kernel
theorem dX3_take_24 : decode cX3_take 24 = .ok (.iconst 0, 1) := by decide +kernel
theorem dX3_take_25 : decode cX3_take 25 = .ok (.bipush 10, 2) := by decide +kernel
theorem dX3_take_27 : decode cX3_take 27 = .ok (.invokestatic 27, 3) := by decide +kernel
theorem dX3_take_30 : decode cX3_take 30 = .ok (.aload_n 1, 1) := by decide +kernel
theorem dX3_take_31 : decode cX3_take 31 = .ok (.getfield 18, 3) := by decide +kernel
theorem dX3_take_34 : decode cX3_take 34 = .ok (.iconst 0, 1) := by decide +kernel
theorem dX3_take_35 : decode cX3_take 35 = .ok (.aload_n 0, 1) := by decide +kernel
theorem dX3_take_36 : decode cX3_take 36 = .ok (.getfield 18, 3) := by decide +kernel
theorem dX3_take_39 : decode cX3_take 39 = .ok (.iconst 0, 1) := by decide +kernel
theorem dX3_take_40 : decode cX3_take 40 = .ok (.bipush 10, 2) := by decide +kernel
theorem dX3_take_42 : decode cX3_take 42 = .ok (.invokestatic 27, 3) := by decide +kernel
theorem dX3_take_45 : decode cX3_take 45 = .ok (.aload_n 1, 1) := by decide +kernel
theorem dX3_take_46 : decode cX3_take 46 = .ok (.getfield 21, 3) := by decide +kernel
theorem dX3_take_49 : decode cX3_take 49 = .ok (.iconst 0, 1) := by decide +kernel
theorem dX3_take_50 : decode cX3_take 50 = .ok (.aload_n 0, 1) := by decide +kernel
theorem dX3_take_51 : decode cX3_take 51 = .ok (.getfield 21, 3) := by decide +kernel
theorem dX3_take_54 : decode cX3_take 54 = .ok (.iconst 0, 1) := by decide +kernel
theorem dX3_take_55 : decode cX3_take 55 = .ok (.bipush 10, 2) := by decide +kernel
theorem dX3_take_57 : decode cX3_take 57 = .ok (.invokestatic 27, 3) := by decide +kernel
theorem dX3_take_60 : decode cX3_take 60 = .ok (.aload_n 1, 1) := by decide +kernel
theorem dX3_take_61 : decode cX3_take 61 = .ok (.getfield 24, 3) := by decide +kernel
theorem dX3_take_64 : decode cX3_take 64 = .ok (.iconst 0, 1) := by decide +kernel
theorem dX3_take_65 : decode cX3_take 65 = .ok (.aload_n 0, 1) := by decide +kernel
theorem dX3_take_66 : decode cX3_take 66 = .ok (.getfield 24, 3) := by decide +kernel
theorem dX3_take_69 : decode cX3_take 69 = .ok (.iconst 0, 1) := by decide +kernel
theorem dX3_take_70 : decode cX3_take 70 = .ok (.bipush 10, 2) := by decide +kernel
theorem dX3_take_72 : decode cX3_take 72 = .ok (.invokestatic 27, 3) := by decide +kernel
theorem dX3_take_75 : decode cX3_take 75 = .ok (.aload_n 0, 1) := by decide +kernel
theorem dX3_take_76 : decode cX3_take 76 = .ok (.aload_n 1, 1) := by decide +kernel
theorem dX3_take_77 : decode cX3_take 77 = .ok (.getfield 33, 3) := by decide +kernel
theorem dX3_take_80 : decode cX3_take 80 = .ok (.putfield 33, 3) := by decide +kernel
theorem dX3_take_83 : decode cX3_take 83 = .ok (.return_, 1) := by decide +kernel
theorem dX4_forgetNeeds_0 : decode cX4_forgetNeeds 0 = .ok (.iconst 0, 1) := by decide +kernel
theorem dX4_forgetNeeds_1 : decode cX4_forgetNeeds 1 = .ok (.istore_n 1, 1) := by decide +kernel
theorem dX4_forgetNeeds_2 : decode cX4_forgetNeeds 2 = .ok (.iload_n 1, 1) := by decide +kernel
theorem dX4_forgetNeeds_3 : decode cX4_forgetNeeds 3 = .ok (.bipush 10, 2) := by decide +kernel
theorem dX4_forgetNeeds_5 : decode cX4_forgetNeeds 5 = .ok (.if_icmp .ge 16, 3) := by decide +kernel
theorem dX4_forgetNeeds_8 : decode cX4_forgetNeeds 8 = .ok (.aload_n 0, 1) := by decide +kernel
theorem dX4_forgetNeeds_9 : decode cX4_forgetNeeds 9 = .ok (.getfield 24, 3) := by decide +kernel
theorem dX4_forgetNeeds_12 : decode cX4_forgetNeeds 12 = .ok (.iload_n 1, 1) := by decide +kernel
theorem dX4_forgetNeeds_13 : decode cX4_forgetNeeds 13 = .ok (.iconst (-1), 1) := by decide +kernel
theorem dX4_forgetNeeds_14 : decode cX4_forgetNeeds 14 = .ok (.iastore, 1) := by decide +kernel
theorem dX4_forgetNeeds_15 : decode cX4_forgetNeeds 15 = .ok (.iinc 1 1, 3) := by decide +kernel
theorem dX4_forgetNeeds_18 : decode cX4_forgetNeeds 18 = .ok (.goto (-16), 3) := by decide +kernel
theorem dX4_forgetNeeds_21 : decode cX4_forgetNeeds 21 = .ok (.aload_n 0, 1) := by decide +kernel
theorem dX4_forgetNeeds_22 : decode cX4_forgetNeeds 22 = .ok (.iconst 0, 1) := by decide +kernel
theorem dX4_forgetNeeds_23 : decode cX4_forgetNeeds 23 = .ok (.putfield 37, 3) := by decide +kernel
theorem dX4_forgetNeeds_26 : decode cX4_forgetNeeds 26 = .ok (.return_, 1) := by decide +kernel
theorem dX4_init_0 : decode cX4_init 0 = .ok (.aload_n 0, 1) := by decide +kernel
theorem dX4_init_1 : decode cX4_init 1 = .ok (.invokespecial 3, 3) := by decide +kernel
theorem dX4_init_4 : decode cX4_init 4 = .ok (.aload_n 0, 1) := by decide +kernel
theorem dX4_init_5 : decode cX4_init 5 = .ok (.bipush 10, 2) := by decide +kernel
theorem dX4_init_7 : decode cX4_init 7 = .ok (.newarray .int, 2) := by decide +kernel
theorem dX4_init_9 : decode cX4_init 9 = .ok (.putfield 9, 3) := by decide +kernel
theorem dX4_init_12 : decode cX4_init 12 = .ok (.aload_n 0, 1) := by decide +kernel
theorem dX4_init_13 : decode cX4_init 13 = .ok (.bipush 10, 2) := by decide +kernel
theorem dX4_init_15 : decode cX4_init 15 = .ok (.newarray .int, 2) := by decide +kernel
theorem dX4_init_17 : decode cX4_init 17 = .ok (.putfield 15, 3) := by decide +kernel
theorem dX4_init_20 : decode cX4_init 20 = .ok (.aload_n 0, 1) := by decide +kernel
theorem dX4_init_21 : decode cX4_init 21 = .ok (.bipush 10, 2) := by decide +kernel
theorem dX4_init_23 : decode cX4_init 23 = .ok (.newarray .int, 2) := by decide +kernel
theorem dX4_init_25 : decode cX4_init 25 = .ok (.putfield 18, 3) := by decide +kernel
theorem dX4_init_28 : decode cX4_init 28 = .ok (.aload_n 0, 1) := by decide +kernel
theorem dX4_init_29 : decode cX4_init 29 = .ok (.bipush 10, 2) := by decide +kernel
theorem dX4_init_31 : decode cX4_init 31 = .ok (.newarray .int, 2) := by decide +kernel
theorem dX4_init_33 : decode cX4_init 33 = .ok (.putfield 21, 3) := by decide +kernel
theorem dX4_init_36 : decode cX4_init 36 = .ok (.aload_n 0, 1) := by decide +kernel
theorem dX4_init_37 : decode cX4_init 37 = .ok (.bipush 10, 2) := by decide +kernel
theorem dX4_init_39 : decode cX4_init 39 = .ok (.newarray .int, 2) := by decide +kernel
theorem dX4_init_41 : decode cX4_init 41 = .ok (.putfield 24, 3) := by decide +kernel
theorem dX4_init_44 : decode cX4_init 44 = .ok (.aload_n 0, 1) := by decide +kernel
theorem dX4_init_45 : decode cX4_init 45 = .ok (.iconst (-1), 1) := by decide +kernel
theorem dX4_init_46 : decode cX4_init 46 = .ok (.putfield 27, 3) := by decide +kernel
theorem dX4_init_49 : decode cX4_init 49 = .ok (.iconst 0, 1) := by decide +kernel
theorem dX4_init_50 : decode cX4_init 50 = .ok (.istore_n 1, 1) := by decide +kernel
theorem dX4_init_51 : decode cX4_init 51 = .ok (.iload_n 1, 1) := by decide +kernel
theorem dX4_init_52 : decode cX4_init 52 = .ok (.bipush 10, 2) := by decide +kernel
theorem dX4_init_54 : decode cX4_init 54 = .ok (.if_icmp .ge 16, 3) := by decide +kernel
theorem dX4_init_57 : decode cX4_init 57 = .ok (.aload_n 0, 1) := by decide +kernel
theorem dX4_init_58 : decode cX4_init 58 = .ok (.getfield 21, 3) := by decide +kernel
theorem dX4_init_61 : decode cX4_init 61 = .ok (.iload_n 1, 1) := by decide +kernel
theorem dX4_init_62 : decode cX4_init 62 = .ok (.iconst (-1), 1) := by decide +kernel
theorem dX4_init_63 : decode cX4_init 63 = .ok (.iastore, 1) := by decide +kernel
theorem dX4_init_64 : decode cX4_init 64 = .ok (.iinc 1 1, 3) := by decide +kernel
theorem dX4_init_67 : decode cX4_init 67 = .ok (.goto (-16), 3) := by decide +kernel
theorem dX4_init_70 : decode cX4_init 70 = .ok (.iconst 0, 1) := by decide +kernel
theorem dX4_init_71 : decode cX4_init 71 = .ok (.istore_n 1, 1) := by decide +kernel
theorem dX4_init_72 : decode cX4_init 72 = .ok (.iload_n 1, 1) := by decide +kernel
theorem dX4_init_73 : decode cX4_init 73 = .ok (.bipush 10, 2) := by decide +kernel
theorem dX4_init_75 : decode cX4_init 75 = .ok (.if_icmp .ge 16, 3) := by decide +kernel
theorem dX4_init_78 : decode cX4_init 78 = .ok (.aload_n 0, 1) := by decide +kernel
theorem dX4_init_79 : decode cX4_init 79 = .ok (.getfield 24, 3) := by decide +kernel
theorem dX4_init_82 : decode cX4_init 82 = .ok (.iload_n 1, 1) := by decide +kernel
theorem dX4_init_83 : decode cX4_init 83 = .ok (.iconst (-1), 1) := by decide +kernel
theorem dX4_init_84 : decode cX4_init 84 = .ok (.iastore, 1) := by decide +kernel
theorem dX4_init_85 : decode cX4_init 85 = .ok (.iinc 1 1, 3) := by decide +kernel
theorem dX4_init_88 : decode cX4_init 88 = .ok (.goto (-16), 3) := by decide +kernel
theorem dX4_init_91 : decode cX4_init 91 = .ok (.return_, 1) := by decide +kernel
theorem dX4_take_0 : decode cX4_take 0 = .ok (.aload_n 1, 1) := by decide +kernel
theorem dX4_take_1 : decode cX4_take 1 = .ok (.getfield 9, 3) := by decide +kernel
theorem dX4_take_4 : decode cX4_take 4 = .ok (.iconst 0, 1) := by decide +kernel
theorem dX4_take_5 : decode cX4_take 5 = .ok (.aload_n 0, 1) := by decide +kernel
theorem dX4_take_6 : decode cX4_take 6 = .ok (.getfield 9, 3) := by decide +kernel
theorem dX4_take_9 : decode cX4_take 9 = .ok (.iconst 0, 1) := by decide +kernel
theorem dX4_take_10 : decode cX4_take 10 = .ok (.bipush 10, 2) := by decide +kernel
theorem dX4_take_12 : decode cX4_take 12 = .ok (.invokestatic 31, 3) := by decide +kernel
theorem dX4_take_15 : decode cX4_take 15 = .ok (.aload_n 1, 1) := by decide +kernel
theorem dX4_take_16 : decode cX4_take 16 = .ok (.getfield 15, 3) := by decide +kernel
theorem dX4_take_19 : decode cX4_take 19 = .ok (.iconst 0, 1) := by decide +kernel
theorem dX4_take_20 : decode cX4_take 20 = .ok (.aload_n 0, 1) := by decide +kernel
theorem dX4_take_21 : decode cX4_take 21 = .ok (.getfield 15, 3) := by decide +kernel
theorem dX4_take_24 : decode cX4_take 24 = .ok (.iconst 0, 1) := by decide +kernel
theorem dX4_take_25 : decode cX4_take 25 = .ok (.bipush 10, 2) := by decide +kernel
theorem dX4_take_27 : decode cX4_take 27 = .ok (.invokestatic 31, 3) := by decide +kernel
theorem dX4_take_30 : decode cX4_take 30 = .ok (.aload_n 1, 1) := by decide +kernel
theorem dX4_take_31 : decode cX4_take 31 = .ok (.getfield 18, 3) := by decide +kernel
theorem dX4_take_34 : decode cX4_take 34 = .ok (.iconst 0, 1) := by decide +kernel
theorem dX4_take_35 : decode cX4_take 35 = .ok (.aload_n 0, 1) := by decide +kernel
theorem dX4_take_36 : decode cX4_take 36 = .ok (.getfield 18, 3) := by decide +kernel
theorem dX4_take_39 : decode cX4_take 39 = .ok (.iconst 0, 1) := by decide +kernel
theorem dX4_take_40 : decode cX4_take 40 = .ok (.bipush 10, 2) := by decide +kernel
theorem dX4_take_42 : decode cX4_take 42 = .ok (.invokestatic 31, 3) := by decide +kernel
theorem dX4_take_45 : decode cX4_take 45 = .ok (.aload_n 1, 1) := by decide +kernel
theorem dX4_take_46 : decode cX4_take 46 = .ok (.getfield 21, 3) := by decide +kernel
theorem dX4_take_49 : decode cX4_take 49 = .ok (.iconst 0, 1) := by decide +kernel
theorem dX4_take_50 : decode cX4_take 50 = .ok (.aload_n 0, 1) := by decide +kernel
theorem dX4_take_51 : decode cX4_take 51 = .ok (.getfield 21, 3) := by decide +kernel
theorem dX4_take_54 : decode cX4_take 54 = .ok (.iconst 0, 1) := by decide +kernel
theorem dX4_take_55 : decode cX4_take 55 = .ok (.bipush 10, 2) := by decide +kernel
theorem dX4_take_57 : decode cX4_take 57 = .ok (.invokestatic 31, 3) := by decide +kernel
theorem dX4_take_60 : decode cX4_take 60 = .ok (.aload_n 1, 1) := by decide +kernel
theorem dX4_take_61 : decode cX4_take 61 = .ok (.getfield 24, 3) := by decide +kernel
theorem dX4_take_64 : decode cX4_take 64 = .ok (.iconst 0, 1) := by decide +kernel
theorem dX4_take_65 : decode cX4_take 65 = .ok (.aload_n 0, 1) := by decide +kernel
theorem dX4_take_66 : decode cX4_take 66 = .ok (.getfield 24, 3) := by decide +kernel
theorem dX4_take_69 : decode cX4_take 69 = .ok (.iconst 0, 1) := by decide +kernel
theorem dX4_take_70 : decode cX4_take 70 = .ok (.bipush 10, 2) := by decide +kernel
theorem dX4_take_72 : decode cX4_take 72 = .ok (.invokestatic 31, 3) := by decide +kernel
theorem dX4_take_75 : decode cX4_take 75 = .ok (.aload_n 0, 1) := by decide +kernel
theorem dX4_take_76 : decode cX4_take 76 = .ok (.aload_n 1, 1) := by decide +kernel
theorem dX4_take_77 : decode cX4_take 77 = .ok (.getfield 37, 3) := by decide +kernel
theorem dX4_take_80 : decode cX4_take 80 = .ok (.putfield 37, 3) := by decide +kernel
theorem dX4_take_83 : decode cX4_take 83 = .ok (.aload_n 0, 1) := by decide +kernel
theorem dX4_take_84 : decode cX4_take 84 = .ok (.aload_n 1, 1) := by decide +kernel
theorem dX4_take_85 : decode cX4_take 85 = .ok (.getfield 27, 3) := by decide +kernel
theorem dX4_take_88 : decode cX4_take 88 = .ok (.putfield 27, 3) := by decide +kernel
theorem dX4_take_91 : decode cX4_take 91 = .ok (.aload_n 0, 1) := by decide +kernel
theorem dX4_take_92 : decode cX4_take 92 = .ok (.aload_n 1, 1) := by decide +kernel
theorem dX4_take_93 : decode cX4_take 93 = .ok (.getfield 40, 3) := by decide +kernel
theorem dX4_take_96 : decode cX4_take 96 = .ok (.putfield 40, 3) := by decide +kernel
theorem dX4_take_99 : decode cX4_take 99 = .ok (.aload_n 0, 1) := by decide +kernel
theorem dX4_take_100 : decode cX4_take 100 = .ok (.aload_n 1, 1) := by decide +kernel
theorem dX4_take_101 : decode cX4_take 101 = .ok (.getfield 43, 3) := by decide +kernel
theorem dX4_take_104 : decode cX4_take 104 = .ok (.putfield 43, 3) := by decide +kernel
theorem dX4_take_107 : decode cX4_take 107 = .ok (.aload_n 0, 1) := by decide +kernel
theorem dX4_take_108 : decode cX4_take 108 = .ok (.aload_n 1, 1) := by decide +kernel
theorem dX4_take_109 : decode cX4_take 109 = .ok (.getfield 46, 3) := by decide +kernel
theorem dX4_take_112 : decode cX4_take 112 = .ok (.putfield 46, 3) := by decide +kernel
theorem dX4_take_115 : decode cX4_take 115 = .ok (.aload_n 0, 1) := by decide +kernel
theorem dX4_take_116 : decode cX4_take 116 = .ok (.aload_n 1, 1) := by decide +kernel
theorem dX4_take_117 : decode cX4_take 117 = .ok (.getfield 49, 3) := by decide +kernel
theorem dX4_take_120 : decode cX4_take 120 = .ok (.putfield 49, 3) := by decide +kernel
theorem dX4_take_123 : decode cX4_take 123 = .ok (.aload_n 0, 1) := by decide +kernel
theorem dX4_take_124 : decode cX4_take 124 = .ok (.aload_n 1, 1) := by decide +kernel
theorem dX4_take_125 : decode cX4_take 125 = .ok (.getfield 52, 3) := by decide +kernel
theorem dX4_take_128 : decode cX4_take 128 = .ok (.putfield 52, 3) := by decide +kernel
theorem dX4_take_131 : decode cX4_take 131 = .ok (.return_, 1) := by decide +kernel
theorem dX5_init_0 : decode cX5_init 0 = .ok (.aload_n 0, 1) := by decide +kernel
theorem dX5_init_1 : decode cX5_init 1 = .ok (.invokespecial 3, 3) := by decide +kernel
theorem dX5_init_4 : decode cX5_init 4 = .ok (.aload_n 0, 1) := by decide +kernel
theorem dX5_init_5 : decode cX5_init 5 = .ok (.bipush 40, 2) := by decide +kernel
theorem dX5_init_7 : decode cX5_init 7 = .ok (.newarray .int, 2) := by decide +kernel
theorem dX5_init_9 : decode cX5_init 9 = .ok (.putfield 9, 3) := by decide +kernel
theorem dX5_init_12 : decode cX5_init 12 = .ok (.aload_n 0, 1) := by decide +kernel
theorem dX5_init_13 : decode cX5_init 13 = .ok (.bipush 40, 2) := by decide +kernel
theorem dX5_init_15 : decode cX5_init 15 = .ok (.newarray .int, 2) := by decide +kernel
theorem dX5_init_17 : decode cX5_init 17 = .ok (.putfield 15, 3) := by decide +kernel
theorem dX5_init_20 : decode cX5_init 20 = .ok (.aload_n 0, 1) := by decide +kernel
theorem dX5_init_21 : decode cX5_init 21 = .ok (.bipush 40, 2) := by decide +kernel
theorem dX5_init_23 : decode cX5_init 23 = .ok (.newarray .int, 2) := by decide +kernel
theorem dX5_init_25 : decode cX5_init 25 = .ok (.putfield 18, 3) := by decide +kernel
theorem dX5_init_28 : decode cX5_init 28 = .ok (.aload_n 0, 1) := by decide +kernel
theorem dX5_init_29 : decode cX5_init 29 = .ok (.bipush 40, 2) := by decide +kernel
theorem dX5_init_31 : decode cX5_init 31 = .ok (.newarray .int, 2) := by decide +kernel
theorem dX5_init_33 : decode cX5_init 33 = .ok (.putfield 21, 3) := by decide +kernel
theorem dX5_init_36 : decode cX5_init 36 = .ok (.aload_n 0, 1) := by decide +kernel
theorem dX5_init_37 : decode cX5_init 37 = .ok (.bipush 100, 2) := by decide +kernel
theorem dX5_init_39 : decode cX5_init 39 = .ok (.newarray .int, 2) := by decide +kernel
theorem dX5_init_41 : decode cX5_init 41 = .ok (.putfield 24, 3) := by decide +kernel
theorem dX5_init_44 : decode cX5_init 44 = .ok (.aload_n 0, 1) := by decide +kernel
theorem dX5_init_45 : decode cX5_init 45 = .ok (.bipush 10, 2) := by decide +kernel
theorem dX5_init_47 : decode cX5_init 47 = .ok (.newarray .int, 2) := by decide +kernel
theorem dX5_init_49 : decode cX5_init 49 = .ok (.putfield 27, 3) := by decide +kernel
theorem dX5_init_52 : decode cX5_init 52 = .ok (.iconst 0, 1) := by decide +kernel
theorem dX5_init_53 : decode cX5_init 53 = .ok (.istore_n 1, 1) := by decide +kernel
theorem dX5_init_54 : decode cX5_init 54 = .ok (.iload_n 1, 1) := by decide +kernel
theorem dX5_init_55 : decode cX5_init 55 = .ok (.bipush 10, 2) := by decide +kernel
theorem dX5_init_57 : decode cX5_init 57 = .ok (.if_icmp .ge 16, 3) := by decide +kernel
theorem dX5_init_60 : decode cX5_init 60 = .ok (.aload_n 0, 1) := by decide +kernel
theorem dX5_init_61 : decode cX5_init 61 = .ok (.getfield 27, 3) := by decide +kernel
theorem dX5_init_64 : decode cX5_init 64 = .ok (.iload_n 1, 1) := by decide +kernel
theorem dX5_init_65 : decode cX5_init 65 = .ok (.iconst (-1), 1) := by decide +kernel
theorem dX5_init_66 : decode cX5_init 66 = .ok (.iastore, 1) := by decide +kernel
theorem dX5_init_67 : decode cX5_init 67 = .ok (.iinc 1 1, 3) := by decide +kernel
theorem dX5_init_70 : decode cX5_init 70 = .ok (.goto (-16), 3) := by decide +kernel
theorem dX5_init_73 : decode cX5_init 73 = .ok (.return_, 1) := by decide +kernel
theorem dX5_read_0 : decode cX5_read 0 = .ok (.aload_n 0, 1) := by decide +kernel
theorem dX5_read_1 : decode cX5_read 1 = .ok (.iconst 0, 1) := by decide +kernel
theorem dX5_read_2 : decode cX5_read 2 = .ok (.putfield 36, 3) := by decide +kernel
theorem dX5_read_5 : decode cX5_read 5 = .ok (.iconst 0, 1) := by decide +kernel
theorem dX5_read_6 : decode cX5_read 6 = .ok (.istore_n 3, 1) := by decide +kernel
theorem dX5_read_7 : decode cX5_read 7 = .ok (.iload_n 3, 1) := by decide +kernel
theorem dX5_read_8 : decode cX5_read 8 = .ok (.sipush 400, 3) := by decide +kernel
theorem dX5_read_11 : decode cX5_read 11 = .ok (.if_icmp .gt 46, 3) := by decide +kernel
theorem dX5_read_14 : decode cX5_read 14 = .ok (.aload_n 1, 1) := by decide +kernel
theorem dX5_read_15 : decode cX5_read 15 = .ok (.invokevirtual 40, 3) := by decide +kernel
theorem dX5_read_18 : decode cX5_read 18 = .ok (.ifCond .eq 39, 3) := by decide +kernel
theorem dX5_read_57 : decode cX5_read 57 = .ok (.return_, 1) := by decide +kernel
theorem dX5_take_0 : decode cX5_take 0 = .ok (.aload_n 1, 1) := by decide +kernel
theorem dX5_take_1 : decode cX5_take 1 = .ok (.getfield 9, 3) := by decide +kernel
theorem dX5_take_4 : decode cX5_take 4 = .ok (.iconst 0, 1) := by decide +kernel
theorem dX5_take_5 : decode cX5_take 5 = .ok (.aload_n 0, 1) := by decide +kernel
theorem dX5_take_6 : decode cX5_take 6 = .ok (.getfield 9, 3) := by decide +kernel
theorem dX5_take_9 : decode cX5_take 9 = .ok (.iconst 0, 1) := by decide +kernel
theorem dX5_take_10 : decode cX5_take 10 = .ok (.bipush 40, 2) := by decide +kernel
theorem dX5_take_12 : decode cX5_take 12 = .ok (.invokestatic 30, 3) := by decide +kernel
theorem dX5_take_15 : decode cX5_take 15 = .ok (.aload_n 1, 1) := by decide +kernel
theorem dX5_take_16 : decode cX5_take 16 = .ok (.getfield 15, 3) := by decide +kernel
theorem dX5_take_19 : decode cX5_take 19 = .ok (.iconst 0, 1) := by decide +kernel
theorem dX5_take_20 : decode cX5_take 20 = .ok (.aload_n 0, 1) := by decide +kernel
theorem dX5_take_21 : decode cX5_take 21 = .ok (.getfield 15, 3) := by decide +kernel
theorem dX5_take_24 : decode cX5_take 24 = .ok (.iconst 0, 1) := by decide +kernel
theorem dX5_take_25 : decode cX5_take 25 = .ok (.bipush 40, 2) := by decide +kernel
theorem dX5_take_27 : decode cX5_take 27 = .ok (.invokestatic 30, 3) := by decide +kernel
theorem dX5_take_30 : decode cX5_take 30 = .ok (.aload_n 1, 1) := by decide +kernel
theorem dX5_take_31 : decode cX5_take 31 = .ok (.getfield 18, 3) := by decide +kernel
theorem dX5_take_34 : decode cX5_take 34 = .ok (.iconst 0, 1) := by decide +kernel
theorem dX5_take_35 : decode cX5_take 35 = .ok (.aload_n 0, 1) := by decide +kernel
theorem dX5_take_36 : decode cX5_take 36 = .ok (.getfield 18, 3) := by decide +kernel
theorem dX5_take_39 : decode cX5_take 39 = .ok (.iconst 0, 1) := by decide +kernel
theorem dX5_take_40 : decode cX5_take 40 = .ok (.bipush 40, 2) := by decide +kernel
theorem dX5_take_42 : decode cX5_take 42 = .ok (.invokestatic 30, 3) := by decide +kernel
theorem dX5_take_45 : decode cX5_take 45 = .ok (.aload_n 1, 1) := by decide +kernel
theorem dX5_take_46 : decode cX5_take 46 = .ok (.getfield 21, 3) := by decide +kernel
theorem dX5_take_49 : decode cX5_take 49 = .ok (.iconst 0, 1) := by decide +kernel
theorem dX5_take_50 : decode cX5_take 50 = .ok (.aload_n 0, 1) := by decide +kernel
theorem dX5_take_51 : decode cX5_take 51 = .ok (.getfield 21, 3) := by decide +kernel
theorem dX5_take_54 : decode cX5_take 54 = .ok (.iconst 0, 1) := by decide +kernel
theorem dX5_take_55 : decode cX5_take 55 = .ok (.bipush 40, 2) := by decide +kernel
theorem dX5_take_57 : decode cX5_take 57 = .ok (.invokestatic 30, 3) := by decide +kernel
theorem dX5_take_60 : decode cX5_take 60 = .ok (.aload_n 0, 1) := by decide +kernel
theorem dX5_take_61 : decode cX5_take 61 = .ok (.aload_n 1, 1) := by decide +kernel
theorem dX5_take_62 : decode cX5_take 62 = .ok (.getfield 36, 3) := by decide +kernel
theorem dX5_take_65 : decode cX5_take 65 = .ok (.putfield 36, 3) := by decide +kernel
theorem dX5_take_68 : decode cX5_take 68 = .ok (.iconst 0, 1) := by decide +kernel
theorem dX5_take_69 : decode cX5_take 69 = .ok (.istore_n 2, 1) := by decide +kernel
theorem dX5_take_70 : decode cX5_take 70 = .ok (.iload_n 2, 1) := by decide +kernel
theorem dX5_take_71 : decode cX5_take 71 = .ok (.bipush 10, 2) := by decide +kernel
theorem dX5_take_73 : decode cX5_take 73 = .ok (.if_icmp .ge 16, 3) := by decide +kernel
theorem dX5_take_76 : decode cX5_take 76 = .ok (.aload_n 0, 1) := by decide +kernel
theorem dX5_take_77 : decode cX5_take 77 = .ok (.getfield 27, 3) := by decide +kernel
theorem dX5_take_80 : decode cX5_take 80 = .ok (.iload_n 2, 1) := by decide +kernel
theorem dX5_take_81 : decode cX5_take 81 = .ok (.iconst (-1), 1) := by decide +kernel
theorem dX5_take_82 : decode cX5_take 82 = .ok (.iastore, 1) := by decide +kernel
theorem dX5_take_83 : decode cX5_take 83 = .ok (.iinc 2 1, 3) := by decide +kernel
theorem dX5_take_86 : decode cX5_take 86 = .ok (.goto (-16), 3) := by decide +kernel
theorem dX5_take_89 : decode cX5_take 89 = .ok (.return_, 1) := by decide +kernel
theorem dX7_init_0 : decode cX7_init 0 = .ok (.aload_n 0, 1) := by decide +kernel
theorem dX7_init_1 : decode cX7_init 1 = .ok (.invokespecial 3, 3) := by decide +kernel
theorem dX7_init_4 : decode cX7_init 4 = .ok (.aload_n 0, 1) := by decide +kernel
theorem dX7_init_5 : decode cX7_init 5 = .ok (.sipush 200, 3) := by decide +kernel
theorem dX7_init_8 : decode cX7_init 8 = .ok (.newarray .int, 2) := by decide +kernel
theorem dX7_init_10 : decode cX7_init 10 = .ok (.putfield 9, 3) := by decide +kernel
theorem dX7_init_13 : decode cX7_init 13 = .ok (.aload_n 0, 1) := by decide +kernel
theorem dX7_init_14 : decode cX7_init 14 = .ok (.iconst 4, 1) := by decide +kernel
theorem dX7_init_15 : decode cX7_init 15 = .ok (.newarray .int, 2) := by decide +kernel
theorem dX7_init_17 : decode cX7_init 17 = .ok (.putfield 15, 3) := by decide +kernel
theorem dX7_init_20 : decode cX7_init 20 = .ok (.aload_n 0, 1) := by decide +kernel
theorem dX7_init_21 : decode cX7_init 21 = .ok (.iconst 4, 1) := by decide +kernel
theorem dX7_init_22 : decode cX7_init 22 = .ok (.newarray .int, 2) := by decide +kernel
theorem dX7_init_24 : decode cX7_init 24 = .ok (.putfield 18, 3) := by decide +kernel
theorem dX7_init_27 : decode cX7_init 27 = .ok (.return_, 1) := by decide +kernel
theorem dX7_read_0 : decode cX7_read 0 = .ok (.aload_n 0, 1) := by decide +kernel
theorem dX7_read_1 : decode cX7_read 1 = .ok (.iconst 0, 1) := by decide +kernel
theorem dX7_read_2 : decode cX7_read 2 = .ok (.putfield 27, 3) := by decide +kernel
theorem dX7_read_5 : decode cX7_read 5 = .ok (.aload_n 0, 1) := by decide +kernel
theorem dX7_read_6 : decode cX7_read 6 = .ok (.iconst 0, 1) := by decide +kernel
theorem dX7_read_7 : decode cX7_read 7 = .ok (.putfield 31, 3) := by decide +kernel
theorem dX7_read_10 : decode cX7_read 10 = .ok (.iconst 0, 1) := by decide +kernel
theorem dX7_read_11 : decode cX7_read 11 = .ok (.istore_n 3, 1) := by decide +kernel
theorem dX7_read_12 : decode cX7_read 12 = .ok (.iload_n 3, 1) := by decide +kernel
theorem dX7_read_13 : decode cX7_read 13 = .ok (.sipush 400, 3) := by decide +kernel
theorem dX7_read_16 : decode cX7_read 16 = .ok (.if_icmp .gt 145, 3) := by decide +kernel
theorem dX7_read_19 : decode cX7_read 19 = .ok (.aload_n 1, 1) := by decide +kernel
theorem dX7_read_20 : decode cX7_read 20 = .ok (.invokevirtual 34, 3) := by decide +kernel
theorem dX7_read_23 : decode cX7_read 23 = .ok (.ifCond .eq 138, 3) := by decide +kernel
theorem dX7_read_161 : decode cX7_read 161 = .ok (.aload_n 0, 1) := by decide +kernel
theorem dX7_read_162 : decode cX7_read 162 = .ok (.getfield 31, 3) := by decide +kernel
theorem dX7_read_165 : decode cX7_read 165 = .ok (.ifCond .le 8, 3) := by decide +kernel
theorem dX7_read_173 : decode cX7_read 173 = .ok (.aload_n 0, 1) := by decide +kernel
theorem dX7_read_174 : decode cX7_read 174 = .ok (.getfield 27, 3) := by decide +kernel
theorem dX7_read_177 : decode cX7_read 177 = .ok (.sipush 200, 3) := by decide +kernel
theorem dX7_read_180 : decode cX7_read 180 = .ok (.if_icmp .le 8, 3) := by decide +kernel
theorem dX7_read_188 : decode cX7_read 188 = .ok (.return_, 1) := by decide +kernel
theorem dX7_take_0 : decode cX7_take 0 = .ok (.aload_n 1, 1) := by decide +kernel
theorem dX7_take_1 : decode cX7_take 1 = .ok (.getfield 9, 3) := by decide +kernel
theorem dX7_take_4 : decode cX7_take 4 = .ok (.iconst 0, 1) := by decide +kernel
theorem dX7_take_5 : decode cX7_take 5 = .ok (.aload_n 0, 1) := by decide +kernel
theorem dX7_take_6 : decode cX7_take 6 = .ok (.getfield 9, 3) := by decide +kernel
theorem dX7_take_9 : decode cX7_take 9 = .ok (.iconst 0, 1) := by decide +kernel
theorem dX7_take_10 : decode cX7_take 10 = .ok (.sipush 200, 3) := by decide +kernel
theorem dX7_take_13 : decode cX7_take 13 = .ok (.invokestatic 21, 3) := by decide +kernel
theorem dX7_take_16 : decode cX7_take 16 = .ok (.aload_n 0, 1) := by decide +kernel
theorem dX7_take_17 : decode cX7_take 17 = .ok (.aload_n 1, 1) := by decide +kernel
theorem dX7_take_18 : decode cX7_take 18 = .ok (.getfield 27, 3) := by decide +kernel
theorem dX7_take_21 : decode cX7_take 21 = .ok (.putfield 27, 3) := by decide +kernel
theorem dX7_take_24 : decode cX7_take 24 = .ok (.return_, 1) := by decide +kernel
theorem dX8_append_0 : decode cX8_append 0 = .ok (.bipush 24, 2) := by decide +kernel
theorem dX8_append_2 : decode cX8_append 2 = .ok (.istore_n 2, 1) := by decide +kernel
theorem dX8_append_3 : decode cX8_append 3 = .ok (.iload_n 2, 1) := by decide +kernel
theorem dX8_append_4 : decode cX8_append 4 = .ok (.ifCond .lt 45, 3) := by decide +kernel
theorem dX8_append_7 : decode cX8_append 7 = .ok (.aload_n 0, 1) := by decide +kernel
theorem dX8_append_8 : decode cX8_append 8 = .ok (.getfield 25, 3) := by decide +kernel
theorem dX8_append_11 : decode cX8_append 11 = .ok (.sipush 400, 3) := by decide +kernel
theorem dX8_append_14 : decode cX8_append 14 = .ok (.if_icmp .ge 29, 3) := by decide +kernel
theorem dX8_append_17 : decode cX8_append 17 = .ok (.aload_n 0, 1) := by decide +kernel
theorem dX8_append_18 : decode cX8_append 18 = .ok (.getfield 9, 3) := by decide +kernel
theorem dX8_append_21 : decode cX8_append 21 = .ok (.aload_n 0, 1) := by decide +kernel
theorem dX8_append_22 : decode cX8_append 22 = .ok (.getfield 25, 3) := by decide +kernel
theorem dX8_append_25 : decode cX8_append 25 = .ok (.iload_n 1, 1) := by decide +kernel
theorem dX8_append_26 : decode cX8_append 26 = .ok (.iload_n 2, 1) := by decide +kernel
theorem dX8_append_27 : decode cX8_append 27 = .ok (.iushr, 1) := by decide +kernel
theorem dX8_append_28 : decode cX8_append 28 = .ok (.sipush 255, 3) := by decide +kernel
theorem dX8_append_31 : decode cX8_append 31 = .ok (.iand, 1) := by decide +kernel
theorem dX8_append_32 : decode cX8_append 32 = .ok (.iastore, 1) := by decide +kernel
theorem dX8_append_33 : decode cX8_append 33 = .ok (.aload_n 0, 1) := by decide +kernel
theorem dX8_append_34 : decode cX8_append 34 = .ok (.dup, 1) := by decide +kernel
theorem dX8_append_35 : decode cX8_append 35 = .ok (.getfield 25, 3) := by decide +kernel
theorem dX8_append_38 : decode cX8_append 38 = .ok (.iconst 1, 1) := by decide +kernel
theorem dX8_append_39 : decode cX8_append 39 = .ok (.iadd, 1) := by decide +kernel
theorem dX8_append_40 : decode cX8_append 40 = .ok (.putfield 25, 3) := by decide +kernel
theorem dX8_append_43 : decode cX8_append 43 = .ok (.iinc 2 (-8), 3) := by decide +kernel
theorem dX8_append_46 : decode cX8_append 46 = .ok (.goto (-43), 3) := by decide +kernel
theorem dX8_append_49 : decode cX8_append 49 = .ok (.return_, 1) := by decide +kernel
theorem dX8_goesOn_0 : decode cX8_goesOn 0 = .ok (.aload_n 0, 1) := by decide +kernel
theorem dX8_goesOn_1 : decode cX8_goesOn 1 = .ok (.getfield 32, 3) := by decide +kernel
theorem dX8_goesOn_4 : decode cX8_goesOn 4 = .ok (.ifCond .ne 14, 3) := by decide +kernel
theorem dX8_goesOn_7 : decode cX8_goesOn 7 = .ok (.aload_n 0, 1) := by decide +kernel
theorem dX8_goesOn_8 : decode cX8_goesOn 8 = .ok (.getfield 51, 3) := by decide +kernel
theorem dX8_goesOn_11 : decode cX8_goesOn 11 = .ok (.ifCond .eq 7, 3) := by decide +kernel
theorem dX8_goesOn_18 : decode cX8_goesOn 18 = .ok (.iconst 0, 1) := by decide +kernel
theorem dX8_goesOn_19 : decode cX8_goesOn 19 = .ok (.ireturn, 1) := by decide +kernel
theorem dX8_init_0 : decode cX8_init 0 = .ok (.aload_n 0, 1) := by decide +kernel
theorem dX8_init_1 : decode cX8_init 1 = .ok (.invokespecial 3, 3) := by decide +kernel
theorem dX8_init_4 : decode cX8_init 4 = .ok (.aload_n 0, 1) := by decide +kernel
theorem dX8_init_5 : decode cX8_init 5 = .ok (.sipush 400, 3) := by decide +kernel
theorem dX8_init_8 : decode cX8_init 8 = .ok (.newarray .int, 2) := by decide +kernel
theorem dX8_init_10 : decode cX8_init 10 = .ok (.putfield 9, 3) := by decide +kernel
theorem dX8_init_13 : decode cX8_init 13 = .ok (.aload_n 0, 1) := by decide +kernel
theorem dX8_init_14 : decode cX8_init 14 = .ok (.ldc 15, 2) := by decide +kernel
theorem dX8_init_16 : decode cX8_init 16 = .ok (.putfield 17, 3) := by decide +kernel
theorem dX8_init_19 : decode cX8_init 19 = .ok (.aload_n 0, 1) := by decide +kernel
theorem dX8_init_20 : decode cX8_init 20 = .ok (.iconst (-1), 1) := by decide +kernel
theorem dX8_init_21 : decode cX8_init 21 = .ok (.putfield 21, 3) := by decide +kernel
theorem dX8_init_24 : decode cX8_init 24 = .ok (.return_, 1) := by decide +kernel
theorem dX8_open_0 : decode cX8_open 0 = .ok (.aload_n 0, 1) := by decide +kernel
theorem dX8_open_1 : decode cX8_open 1 = .ok (.iload_n 1, 1) := by decide +kernel
theorem dX8_open_2 : decode cX8_open 2 = .ok (.invokestatic 28, 3) := by decide +kernel
theorem dX8_open_5 : decode cX8_open 5 = .ok (.putfield 17, 3) := by decide +kernel
theorem dX8_open_8 : decode cX8_open 8 = .ok (.aload_n 0, 1) := by decide +kernel
theorem dX8_open_9 : decode cX8_open 9 = .ok (.iconst 0, 1) := by decide +kernel
theorem dX8_open_10 : decode cX8_open 10 = .ok (.putfield 32, 3) := by decide +kernel
theorem dX8_open_13 : decode cX8_open 13 = .ok (.aload_n 0, 1) := by decide +kernel
theorem dX8_open_14 : decode cX8_open 14 = .ok (.iconst (-1), 1) := by decide +kernel
theorem dX8_open_15 : decode cX8_open 15 = .ok (.putfield 21, 3) := by decide +kernel
theorem dX8_open_18 : decode cX8_open 18 = .ok (.aload_n 0, 1) := by decide +kernel
theorem dX8_open_19 : decode cX8_open 19 = .ok (.iconst 0, 1) := by decide +kernel
theorem dX8_open_20 : decode cX8_open 20 = .ok (.putfield 35, 3) := by decide +kernel
theorem dX8_open_23 : decode cX8_open 23 = .ok (.aload_n 0, 1) := by decide +kernel
theorem dX8_open_24 : decode cX8_open 24 = .ok (.invokevirtual 38, 3) := by decide +kernel
theorem dX8_open_27 : decode cX8_open 27 = .ok (.return_, 1) := by decide +kernel
theorem dX8_step_0 : decode cX8_step 0 = .ok (.aload_n 0, 1) := by decide +kernel
theorem dX8_step_1 : decode cX8_step 1 = .ok (.getfield 32, 3) := by decide +kernel
theorem dX8_step_4 : decode cX8_step 4 = .ok (.ifCond .eq 4, 3) := by decide +kernel
theorem dX8_step_8 : decode cX8_step 8 = .ok (.aload_n 0, 1) := by decide +kernel
theorem dX8_step_9 : decode cX8_step 9 = .ok (.getfield 35, 3) := by decide +kernel
theorem dX8_step_12 : decode cX8_step 12 = .ok (.aload_n 0, 1) := by decide +kernel
theorem dX8_step_13 : decode cX8_step 13 = .ok (.getfield 25, 3) := by decide +kernel
theorem dX8_step_16 : decode cX8_step 16 = .ok (.if_icmp .ge 44, 3) := by decide +kernel
theorem dX8_step_60 : decode cX8_step 60 = .ok (.aload_n 0, 1) := by decide +kernel
theorem dX8_step_61 : decode cX8_step 61 = .ok (.aload_n 0, 1) := by decide +kernel
theorem dX8_step_62 : decode cX8_step 62 = .ok (.getfield 35, 3) := by decide +kernel
theorem dX8_step_65 : decode cX8_step 65 = .ok (.putfield 54, 3) := by decide +kernel
theorem dX8_step_68 : decode cX8_step 68 = .ok (.aload_n 0, 1) := by decide +kernel
theorem dX8_step_69 : decode cX8_step 69 = .ok (.getfield 35, 3) := by decide +kernel
theorem dX8_step_72 : decode cX8_step 72 = .ok (.aload_n 0, 1) := by decide +kernel
theorem dX8_step_73 : decode cX8_step 73 = .ok (.getfield 25, 3) := by decide +kernel
theorem dX8_step_76 : decode cX8_step 76 = .ok (.if_icmp .lt 11, 3) := by decide +kernel
theorem dX8_step_79 : decode cX8_step 79 = .ok (.aload_n 0, 1) := by decide +kernel
theorem dX8_step_80 : decode cX8_step 80 = .ok (.iconst 0, 1) := by decide +kernel
theorem dX8_step_81 : decode cX8_step 81 = .ok (.putfield 51, 3) := by decide +kernel
theorem dX8_step_84 : decode cX8_step 84 = .ok (.goto 150, 3) := by decide +kernel
theorem dX8_step_234 : decode cX8_step 234 = .ok (.return_, 1) := by decide +kernel
theorem dX8_wordsOf_0 : decode cX8_wordsOf 0 = .ok (.iload_n 0, 1) := by decide +kernel
theorem dX8_wordsOf_1 : decode cX8_wordsOf 1 = .ok (.tableswitch 50 0 4 #[35, 38, 41, 44, 47], 35) := by decide +kernel
theorem dX8_wordsOf_36 : decode cX8_wordsOf 36 = .ok (.ldc 41, 2) := by decide +kernel
theorem dX8_wordsOf_38 : decode cX8_wordsOf 38 = .ok (.areturn, 1) := by decide +kernel
theorem dX8_wordsOf_39 : decode cX8_wordsOf 39 = .ok (.ldc 43, 2) := by decide +kernel
theorem dX8_wordsOf_41 : decode cX8_wordsOf 41 = .ok (.areturn, 1) := by decide +kernel
theorem dX8_wordsOf_42 : decode cX8_wordsOf 42 = .ok (.ldc 45, 2) := by decide +kernel
theorem dX8_wordsOf_44 : decode cX8_wordsOf 44 = .ok (.areturn, 1) := by decide +kernel
theorem dX8_wordsOf_45 : decode cX8_wordsOf 45 = .ok (.ldc 47, 2) := by decide +kernel
theorem dX8_wordsOf_47 : decode cX8_wordsOf 47 = .ok (.areturn, 1) := by decide +kernel
theorem dX8_wordsOf_48 : decode cX8_wordsOf 48 = .ok (.ldc 49, 2) := by decide +kernel
theorem dX8_wordsOf_50 : decode cX8_wordsOf 50 = .ok (.areturn, 1) := by decide +kernel
theorem dX8_wordsOf_51 : decode cX8_wordsOf 51 = .ok (.ldc 15, 2) := by decide +kernel
theorem dX8_wordsOf_53 : decode cX8_wordsOf 53 = .ok (.areturn, 1) := by decide +kernel
theorem dX9_fill_0 : decode cX9_fill 0 = .ok (.iconst 0, 1) := by decide +kernel
theorem dX9_fill_1 : decode cX9_fill 1 = .ok (.istore 6, 2) := by decide +kernel
theorem dX9_fill_3 : decode cX9_fill 3 = .ok (.iload 6, 2) := by decide +kernel
theorem dX9_fill_5 : decode cX9_fill 5 = .ok (.iload 5, 2) := by decide +kernel
theorem dX9_fill_7 : decode cX9_fill 7 = .ok (.if_icmp .ge 98, 3) := by decide +kernel
theorem dX9_fill_105 : decode cX9_fill 105 = .ok (.return_, 1) := by decide +kernel
theorem dX9_follow_0 : decode cX9_follow 0 = .ok (.aload_n 1, 1) := by decide +kernel
theorem dX9_follow_1 : decode cX9_follow 1 = .ok (.getfield 22, 3) := by decide +kernel
theorem dX9_follow_4 : decode cX9_follow 4 = .ok (.getfield 28, 3) := by decide +kernel
theorem dX9_follow_7 : decode cX9_follow 7 = .ok (.istore_n 3, 1) := by decide +kernel
theorem dX9_follow_8 : decode cX9_follow 8 = .ok (.iconst 0, 1) := by decide +kernel
theorem dX9_follow_9 : decode cX9_follow 9 = .ok (.istore 4, 2) := by decide +kernel
theorem dX9_follow_11 : decode cX9_follow 11 = .ok (.iload 4, 2) := by decide +kernel
theorem dX9_follow_13 : decode cX9_follow 13 = .ok (.iload_n 3, 1) := by decide +kernel
theorem dX9_follow_14 : decode cX9_follow 14 = .ok (.if_icmp .ge 22, 3) := by decide +kernel
theorem dX9_follow_36 : decode cX9_follow 36 = .ok (.iconst 0, 1) := by decide +kernel
theorem dX9_follow_37 : decode cX9_follow 37 = .ok (.istore 4, 2) := by decide +kernel
theorem dX9_follow_39 : decode cX9_follow 39 = .ok (.iload 4, 2) := by decide +kernel
theorem dX9_follow_41 : decode cX9_follow 41 = .ok (.iload_n 2, 1) := by decide +kernel
theorem dX9_follow_42 : decode cX9_follow 42 = .ok (.if_icmp .ge 44, 3) := by decide +kernel
theorem dX9_follow_45 : decode cX9_follow 45 = .ok (.aload_n 1, 1) := by decide +kernel
theorem dX9_follow_46 : decode cX9_follow 46 = .ok (.getfield 38, 3) := by decide +kernel
theorem dX9_follow_49 : decode cX9_follow 49 = .ok (.iload 4, 2) := by decide +kernel
theorem dX9_follow_51 : decode cX9_follow 51 = .ok (.aload_n 1, 1) := by decide +kernel
theorem dX9_follow_52 : decode cX9_follow 52 = .ok (.getfield 22, 3) := by decide +kernel
theorem dX9_follow_55 : decode cX9_follow 55 = .ok (.invokevirtual 42, 3) := by decide +kernel
theorem dX9_follow_58 : decode cX9_follow 58 = .ok (.invokevirtual 46, 3) := by decide +kernel
theorem dX9_follow_61 : decode cX9_follow 61 = .ok (.istore 5, 2) := by decide +kernel
theorem dX9_follow_63 : decode cX9_follow 63 = .ok (.aload_n 0, 1) := by decide +kernel
theorem dX9_follow_64 : decode cX9_follow 64 = .ok (.aload_n 0, 1) := by decide +kernel
theorem dX9_follow_65 : decode cX9_follow 65 = .ok (.getfield 9, 3) := by decide +kernel
theorem dX9_follow_68 : decode cX9_follow 68 = .ok (.iload 4, 2) := by decide +kernel
theorem dX9_follow_70 : decode cX9_follow 70 = .ok (.iload 4, 2) := by decide +kernel
theorem dX9_follow_72 : decode cX9_follow 72 = .ok (.iconst 1, 1) := by decide +kernel
theorem dX9_follow_73 : decode cX9_follow 73 = .ok (.isub, 1) := by decide +kernel
theorem dX9_follow_74 : decode cX9_follow 74 = .ok (.iload 5, 2) := by decide +kernel
theorem dX9_follow_76 : decode cX9_follow 76 = .ok (.iload_n 3, 1) := by decide +kernel
theorem dX9_follow_77 : decode cX9_follow 77 = .ok (.invokevirtual 52, 3) := by decide +kernel
theorem dX9_follow_80 : decode cX9_follow 80 = .ok (.iinc 4 1, 3) := by decide +kernel
theorem dX9_follow_83 : decode cX9_follow 83 = .ok (.goto (-44), 3) := by decide +kernel
theorem dX9_follow_86 : decode cX9_follow 86 = .ok (.iload_n 2, 1) := by decide +kernel
theorem dX9_follow_87 : decode cX9_follow 87 = .ok (.iconst 1, 1) := by decide +kernel
theorem dX9_follow_88 : decode cX9_follow 88 = .ok (.isub, 1) := by decide +kernel
theorem dX9_follow_89 : decode cX9_follow 89 = .ok (.istore 4, 2) := by decide +kernel
theorem dX9_follow_91 : decode cX9_follow 91 = .ok (.iload 4, 2) := by decide +kernel
theorem dX9_follow_93 : decode cX9_follow 93 = .ok (.ifCond .lt 56, 3) := by decide +kernel
theorem dX9_follow_96 : decode cX9_follow 96 = .ok (.aload_n 1, 1) := by decide +kernel
theorem dX9_follow_97 : decode cX9_follow 97 = .ok (.getfield 38, 3) := by decide +kernel
theorem dX9_follow_100 : decode cX9_follow 100 = .ok (.iload 4, 2) := by decide +kernel
theorem dX9_follow_102 : decode cX9_follow 102 = .ok (.aload_n 1, 1) := by decide +kernel
theorem dX9_follow_103 : decode cX9_follow 103 = .ok (.getfield 22, 3) := by decide +kernel
theorem dX9_follow_106 : decode cX9_follow 106 = .ok (.invokevirtual 42, 3) := by decide +kernel
theorem dX9_follow_109 : decode cX9_follow 109 = .ok (.invokevirtual 46, 3) := by decide +kernel
theorem dX9_follow_112 : decode cX9_follow 112 = .ok (.istore 5, 2) := by decide +kernel
theorem dX9_follow_114 : decode cX9_follow 114 = .ok (.aload_n 0, 1) := by decide +kernel
theorem dX9_follow_115 : decode cX9_follow 115 = .ok (.aload_n 0, 1) := by decide +kernel
theorem dX9_follow_116 : decode cX9_follow 116 = .ok (.getfield 15, 3) := by decide +kernel
theorem dX9_follow_119 : decode cX9_follow 119 = .ok (.iload 4, 2) := by decide +kernel
theorem dX9_follow_121 : decode cX9_follow 121 = .ok (.iload 4, 2) := by decide +kernel
theorem dX9_follow_123 : decode cX9_follow 123 = .ok (.iconst 1, 1) := by decide +kernel
theorem dX9_follow_124 : decode cX9_follow 124 = .ok (.iadd, 1) := by decide +kernel
theorem dX9_follow_125 : decode cX9_follow 125 = .ok (.iload_n 2, 1) := by decide +kernel
theorem dX9_follow_126 : decode cX9_follow 126 = .ok (.if_icmp .ge 10, 3) := by decide +kernel
theorem dX9_follow_129 : decode cX9_follow 129 = .ok (.iload 4, 2) := by decide +kernel
theorem dX9_follow_131 : decode cX9_follow 131 = .ok (.iconst 1, 1) := by decide +kernel
theorem dX9_follow_132 : decode cX9_follow 132 = .ok (.iadd, 1) := by decide +kernel
theorem dX9_follow_133 : decode cX9_follow 133 = .ok (.goto 4, 3) := by decide +kernel
theorem dX9_follow_136 : decode cX9_follow 136 = .ok (.iconst (-1), 1) := by decide +kernel
theorem dX9_follow_137 : decode cX9_follow 137 = .ok (.iload 5, 2) := by decide +kernel
theorem dX9_follow_139 : decode cX9_follow 139 = .ok (.iload_n 3, 1) := by decide +kernel
theorem dX9_follow_140 : decode cX9_follow 140 = .ok (.invokevirtual 52, 3) := by decide +kernel
theorem dX9_follow_143 : decode cX9_follow 143 = .ok (.iinc 4 (-1), 3) := by decide +kernel
theorem dX9_follow_146 : decode cX9_follow 146 = .ok (.goto (-55), 3) := by decide +kernel
theorem dX9_follow_149 : decode cX9_follow 149 = .ok (.lconst 0, 1) := by decide +kernel
theorem dX9_follow_150 : decode cX9_follow 150 = .ok (.lstore 4, 2) := by decide +kernel
theorem dX9_follow_152 : decode cX9_follow 152 = .ok (.iconst 0, 1) := by decide +kernel
theorem dX9_follow_153 : decode cX9_follow 153 = .ok (.istore 6, 2) := by decide +kernel
theorem dX9_follow_155 : decode cX9_follow 155 = .ok (.iload 6, 2) := by decide +kernel
theorem dX9_follow_157 : decode cX9_follow 157 = .ok (.iload_n 3, 1) := by decide +kernel
theorem dX9_follow_158 : decode cX9_follow 158 = .ok (.if_icmp .ge 21, 3) := by decide +kernel
theorem dX9_follow_179 : decode cX9_follow 179 = .ok (.lload 4, 2) := by decide +kernel
theorem dX9_follow_181 : decode cX9_follow 181 = .ok (.lreturn, 1) := by decide +kernel
theorem dX9_init_0 : decode cX9_init 0 = .ok (.aload_n 0, 1) := by decide +kernel
theorem dX9_init_1 : decode cX9_init 1 = .ok (.invokespecial 3, 3) := by decide +kernel
theorem dX9_init_4 : decode cX9_init 4 = .ok (.aload_n 0, 1) := by decide +kernel
theorem dX9_init_5 : decode cX9_init 5 = .ok (.bipush 100, 2) := by decide +kernel
theorem dX9_init_7 : decode cX9_init 7 = .ok (.newarray .long, 2) := by decide +kernel
theorem dX9_init_9 : decode cX9_init 9 = .ok (.putfield 9, 3) := by decide +kernel
theorem dX9_init_12 : decode cX9_init 12 = .ok (.aload_n 0, 1) := by decide +kernel
theorem dX9_init_13 : decode cX9_init 13 = .ok (.bipush 100, 2) := by decide +kernel
theorem dX9_init_15 : decode cX9_init 15 = .ok (.newarray .long, 2) := by decide +kernel
theorem dX9_init_17 : decode cX9_init 17 = .ok (.putfield 15, 3) := by decide +kernel
theorem dX9_init_20 : decode cX9_init 20 = .ok (.aload_n 0, 1) := by decide +kernel
theorem dX9_init_21 : decode cX9_init 21 = .ok (.bipush 10, 2) := by decide +kernel
theorem dX9_init_23 : decode cX9_init 23 = .ok (.newarray .int, 2) := by decide +kernel
theorem dX9_init_25 : decode cX9_init 25 = .ok (.putfield 18, 3) := by decide +kernel
theorem dX9_init_28 : decode cX9_init 28 = .ok (.return_, 1) := by decide +kernel
